set_option maxHeartbeats 4000000 in
set_option maxRecDepth 100000 in
/-- X10_number_0 -/
theorem c_X10_number_0 (l : Launch) (dC : Nat → ClassId) (dI : Nat → Nat → Nat) (cI cB : ClassId) (p0 : Nat) (p1 : Int32) (p2 : Nat) (p3 : Nat) (p4 : Nat) (p5 : Nat) (p6 : Nat) (p7 : Nat) (p8 : Nat) (p9 : Nat) (sz : Nat) : Met l yX10_number (.code yX10_number cX10_number 7 (some .int) :: WA) ({ frames := 1, cells := 0, slots := 0, locals := 20 }) (va_Pc [.ref p0, .int p1, .int 0] (PB dC dI cI cB [(p0, .inr (10, [.ref p2, .ref p3, .ref p4, .ref p5, .ref p6, .ref p7, .ref p8, .ref p9, .int 0, .int 0, .int (-1)]))] sz)) (va_Qi (fun (r : Int32) (_ : Unit) => r = 0) (fun _ _ => True) (va_A [(p0, .inr (10, [.ref p2, .ref p3, .ref p4, .ref p5, .ref p6, .ref p7, .ref p8, .ref p9, .int 0, .int 0, .int (-1)]))] sz)) 0 0 (va_A [(p0, .inr (10, [.ref p2, .ref p3, .ref p4, .ref p5, .ref p6, .ref p7, .ref p8, .ref p9, .int 0, .int 0, .int (-1)]))] sz) := by
  refine Met.ofW (cc := cX10_number) (maxL := 7) (ret := (some .int)) (by decide) rfl ?_
  intro p e s m args below meth c s₁ B hml hv
  obtain ⟨rfl, hsz, hP, hK, hD0, hN⟩ := hv
  have hx := B.exec
  have hb := B.bytes
  have hr := B.returns
  have hts := atoms_spec B.pre
  have hW : ∀ w ∈ WA, w.before [.ref p0, .int p1, .int 0].toArray s = true := fun w h => hts w (List.mem_cons_of_mem _ h)
  have hown : s.vm.findClass RX10 = some m.cls := findClass_of_methodNamed B.named
  have hlocks := B.notSynchronized
  subst hsz
  have hD := hD0.self (sz := s.heap.size)
  generalize hAe : va_A [(p0, .inr (10, [.ref p2, .ref p3, .ref p4, .ref p5, .ref p6, .ref p7, .ref p8, .ref p9, .int 0, .int 0, .int (-1)]))] s.heap.size = A at hD ⊢
  have hA : ∀ q : Nat, s.heap.size ≤ q → A q := fun q h => by rw [← hAe]; exact Or.inr h
  have hS : va_S A s.heap s.heap [] := va_S.rf
  have hP : va_P (dC, dI) vwCl [(p0, .inr (10, [.ref p2, .ref p3, .ref p4, .ref p5, .ref p6, .ref p7, .ref p8, .ref p9, .int 0, .int 0, .int (-1)]))] s.heap := hP
  have hl := lv_entry ([.ref p0, .int p1, .int 0]) (n := 7) (Nat.le_of_ble_eq_true rfl)
  rw [lg_entry_eq]
  generalize (lg_sl ([.ref p0, .int p1, .int 0]) ++ List.replicate (7 - (lg_sl ([.ref p0, .int p1, .int 0])).length) Slot.unset).toArray = ls at hl ⊢
  have hl : lv_has ls 7 [(0, .ref p0), (1, .int p1), (2, .int 0)] := hl
  refine lv_aload_n hx hb dX10_number_0 rfl (lv_at hl 0 rfl) ?_
  have hPc := hP.sub (ws' := [(p0, .inr (10, [.ref p2, .ref p3, .ref p4, .ref p5, .ref p6, .ref p7, .ref p8, .ref p9, .int 0, .int 0, .int (-1)]))]) [0] rfl
  have hDc := hD.sub (ws' := [(p0, .inr (10, [.ref p2, .ref p3, .ref p4, .ref p5, .ref p6, .ref p7, .ref p8, .ref p9, .int 0, .int 0, .int (-1)]))]) [0] (by decide) rfl
  have hFc := va_free (wc := [(p0, .inr (10, [.ref p2, .ref p3, .ref p4, .ref p5, .ref p6, .ref p7, .ref p8, .ref p9, .int 0, .int 0, .int (-1)]))]) hD hS hA [0] rfl
  refine va_calli (va_runV (As := []) (rest := []) ⟨hx, hb, hml, hown, hW⟩ (c_X10_viewed_0 l dC dI cI cB p0 p2 p3 p4 p5 p6 p7 p8 p9 s.heap.size) (cwV 0 hW (gV mw_373 mw_374 mw_375 mw_2 mw_372) rfl rfl rfl (by decide +kernel) ⟨Nat.le_of_ble_eq_true rfl, Nat.le_of_ble_eq_true rfl⟩) ⟨PB_blind _, va_recv hK hP (ci := 10) (q0 := 0) rfl rfl, fun U hU hW2 => ⟨rfl, PB_at hU hW2 hPc hK hDc hN⟩⟩ rfl rfl hl.1 rfl (lv_room (Nat.le_of_ble_eq_true rfl)) dX10_number_1 ⟨Nat.le_of_ble_eq_true rfl, Nat.le_of_ble_eq_true rfl⟩) hS (fun q _ h => hFc q h) hFc (fun r u t H1 locs ht hvm hw hB hz1 hk1 hS => ?_)
  have hq := hB
  obtain ⟨hP, hD⟩ := after (wr := []) (w1 := [(p0, .inr (10, [.ref p2, .ref p3, .ref p4, .ref p5, .ref p6, .ref p7, .ref p8, .ref p9, .int 0, .int 0, .int (-1)]))]) hP hD [0] [] rfl rfl (by decide) (by decide) hk1 hFc ht hq
  generalize H1 = H at hP hS ⊢
  have hP : va_P (dC, dI) vwCl [(p0, .inr (10, [.ref p2, .ref p3, .ref p4, .ref p5, .ref p6, .ref p7, .ref p8, .ref p9, .int 0, .int 0, .int (-1)]))] H := hP
  have hD : va_D A [(p0, .inr (10, [.ref p2, .ref p3, .ref p4, .ref p5, .ref p6, .ref p7, .ref p8, .ref p9, .int 0, .int 0, .int (-1)]))] := hD
  refine tp_i 0 hw ?_
  refine lv_istore_n (lv' := [(3, .int 0), (0, .ref p0), (1, .int p1), (2, .int 0)]) hx hb dX10_number_4 rfl hl (by decide) rfl (fun ls hl => ?_)
  refine lv_iload_n hx hb dX10_number_5 rfl (lv_at hl 0 rfl) ?_
  refine lv_if_eq (tgt := 26) hx hb dX10_number_6 (by decide) (fun _ => ?_) (fun c => absurd (by decide) c)
  refine lv_iconst (v := 0) hx hb dX10_number_26 (by decide) ?_
  refine W.widen (k := 0) (n := 0) (Nat.le_of_ble_eq_true rfl) (Nat.le_of_ble_eq_true rfl) ?_
  exact W.iret (v := 0) hx hb hr (fun t ht hW9 => ⟨⟨0, (), rfl, rfl, trivial⟩, hS.F ht⟩) hS.2.2 dX10_number_27

set_option maxHeartbeats 4000000 in
set_option maxRecDepth 100000 in
/-- X11_number__0 -/
theorem c_X11_number__0 (l : Launch) (dC : Nat → ClassId) (dI : Nat → Nat → Nat) (cI cB : ClassId) (p0 : Nat) (p1 : Int32) (p2 : Nat) (p3 : Nat) (p4 : Nat) (p5 : Nat) (p6 : Nat) (p7 : Nat) (p8 : Nat) (p9 : Nat) (p10 : Nat) (p11 : Nat) (p12 : Nat) (p13 : Nat) (p14 : Nat) (p15 : Nat) (p16 : Nat) (p17 : Nat) (p18 : Nat) (p19 : Nat) (p20 : Nat) (p21 : Nat) (p22 : Nat) (p23 : Nat) (p24 : Nat) (p25 : Nat) (p26 : Nat) (p27 : Nat) (p28 : Nat) (p29 : Nat) (p30 : Nat) (p31 : Nat) (p32 : Nat) (p33 : Nat) (p34 : Nat) (p35 : Nat) (p36 : Nat) (p37 : Nat) (p38 : Nat) (sz : Nat) : Met l yX11_number_ (.code yX11_number_ cX11_number_ 3 (some .int) :: WA) ({ frames := 1, cells := 0, slots := 0, locals := 21 }) (va_Pc [.ref p0, .int p1, .int 0] (PB dC dI cI cB [(p0, .inr (11, [.int 0, .int 0, .int 0, .int 1, .long 1, .ref p2, .ref p3, .int 1, .ref p4, .int 0, .int 0, .int 1, .ref p5, .ref p6, .ref p7, .int 0, .ref p8, .int 0, .ref p9, .int 0, .int 0, .ref p10, .int 0, .ref p11, .int 0, .ref p12, .ref p13, .ref p14, .ref p15, .ref p16, .ref p17, .ref p18, .int 0, .int 0, .int 0, .int 0, .ref p19, .ref p20, .ref p21, .ref p22, .ref p23, .ref p24, .ref p25, .ref p26, .ref p27, .int 0, .int 0, .ref p28, .ref p29, .ref p30, .ref p31, .int 0, .int 0, .int 0, .int 0, .int 0, .int 0, .int 0, .int 0, .int 0, .int 0, .int 0, .int (-1), .int 0, .ref p32, .ref p33, .int 0, .ref p34, .ref p35, .ref p36, .ref p37, .int 0, .int (-1), .int 0, .int 0, .ref p38]))] sz)) (va_Qi (fun (r : Int32) (_ : Unit) => r = 0) (fun _ _ => True) (va_A [(p0, .inr (11, [.int 0, .int 0, .int 0, .int 1, .long 1, .ref p2, .ref p3, .int 1, .ref p4, .int 0, .int 0, .int 1, .ref p5, .ref p6, .ref p7, .int 0, .ref p8, .int 0, .ref p9, .int 0, .int 0, .ref p10, .int 0, .ref p11, .int 0, .ref p12, .ref p13, .ref p14, .ref p15, .ref p16, .ref p17, .ref p18, .int 0, .int 0, .int 0, .int 0, .ref p19, .ref p20, .ref p21, .ref p22, .ref p23, .ref p24, .ref p25, .ref p26, .ref p27, .int 0, .int 0, .ref p28, .ref p29, .ref p30, .ref p31, .int 0, .int 0, .int 0, .int 0, .int 0, .int 0, .int 0, .int 0, .int 0, .int 0, .int 0, .int (-1), .int 0, .ref p32, .ref p33, .int 0, .ref p34, .ref p35, .ref p36, .ref p37, .int 0, .int (-1), .int 0, .int 0, .ref p38]))] sz)) 0 0 (va_A [(p0, .inr (11, [.int 0, .int 0, .int 0, .int 1, .long 1, .ref p2, .ref p3, .int 1, .ref p4, .int 0, .int 0, .int 1, .ref p5, .ref p6, .ref p7, .int 0, .ref p8, .int 0, .ref p9, .int 0, .int 0, .ref p10, .int 0, .ref p11, .int 0, .ref p12, .ref p13, .ref p14, .ref p15, .ref p16, .ref p17, .ref p18, .int 0, .int 0, .int 0, .int 0, .ref p19, .ref p20, .ref p21, .ref p22, .ref p23, .ref p24, .ref p25, .ref p26, .ref p27, .int 0, .int 0, .ref p28, .ref p29, .ref p30, .ref p31, .int 0, .int 0, .int 0, .int 0, .int 0, .int 0, .int 0, .int 0, .int 0, .int 0, .int 0, .int (-1), .int 0, .ref p32, .ref p33, .int 0, .ref p34, .ref p35, .ref p36, .ref p37, .int 0, .int (-1), .int 0, .int 0, .ref p38]))] sz) := by
  refine Met.ofW (cc := cX11_number_) (maxL := 3) (ret := (some .int)) (by decide) rfl ?_
  intro p e s m args below meth c s₁ B hml hv
  obtain ⟨rfl, hsz, hP, hK, hD0, hN⟩ := hv
  have hx := B.exec
  have hb := B.bytes
  have hr := B.returns
  have hts := atoms_spec B.pre
  have hW : ∀ w ∈ WA, w.before [.ref p0, .int p1, .int 0].toArray s = true := fun w h => hts w (List.mem_cons_of_mem _ h)
  have hown : s.vm.findClass RX11 = some m.cls := findClass_of_methodNamed B.named
  have hlocks := B.notSynchronized
  subst hsz
  have hD := hD0.self (sz := s.heap.size)
  generalize hAe : va_A [(p0, .inr (11, [.int 0, .int 0, .int 0, .int 1, .long 1, .ref p2, .ref p3, .int 1, .ref p4, .int 0, .int 0, .int 1, .ref p5, .ref p6, .ref p7, .int 0, .ref p8, .int 0, .ref p9, .int 0, .int 0, .ref p10, .int 0, .ref p11, .int 0, .ref p12, .ref p13, .ref p14, .ref p15, .ref p16, .ref p17, .ref p18, .int 0, .int 0, .int 0, .int 0, .ref p19, .ref p20, .ref p21, .ref p22, .ref p23, .ref p24, .ref p25, .ref p26, .ref p27, .int 0, .int 0, .ref p28, .ref p29, .ref p30, .ref p31, .int 0, .int 0, .int 0, .int 0, .int 0, .int 0, .int 0, .int 0, .int 0, .int 0, .int 0, .int (-1), .int 0, .ref p32, .ref p33, .int 0, .ref p34, .ref p35, .ref p36, .ref p37, .int 0, .int (-1), .int 0, .int 0, .ref p38]))] s.heap.size = A at hD ⊢
  have hA : ∀ q : Nat, s.heap.size ≤ q → A q := fun q h => by rw [← hAe]; exact Or.inr h
  have hS : va_S A s.heap s.heap [] := va_S.rf
  have hP : va_P (dC, dI) vwCl [(p0, .inr (11, [.int 0, .int 0, .int 0, .int 1, .long 1, .ref p2, .ref p3, .int 1, .ref p4, .int 0, .int 0, .int 1, .ref p5, .ref p6, .ref p7, .int 0, .ref p8, .int 0, .ref p9, .int 0, .int 0, .ref p10, .int 0, .ref p11, .int 0, .ref p12, .ref p13, .ref p14, .ref p15, .ref p16, .ref p17, .ref p18, .int 0, .int 0, .int 0, .int 0, .ref p19, .ref p20, .ref p21, .ref p22, .ref p23, .ref p24, .ref p25, .ref p26, .ref p27, .int 0, .int 0, .ref p28, .ref p29, .ref p30, .ref p31, .int 0, .int 0, .int 0, .int 0, .int 0, .int 0, .int 0, .int 0, .int 0, .int 0, .int 0, .int (-1), .int 0, .ref p32, .ref p33, .int 0, .ref p34, .ref p35, .ref p36, .ref p37, .int 0, .int (-1), .int 0, .int 0, .ref p38]))] s.heap := hP
  have hl := lv_entry ([.ref p0, .int p1, .int 0]) (n := 3) (Nat.le_of_ble_eq_true rfl)
  rw [lg_entry_eq]
  generalize (lg_sl ([.ref p0, .int p1, .int 0]) ++ List.replicate (3 - (lg_sl ([.ref p0, .int p1, .int 0])).length) Slot.unset).toArray = ls at hl ⊢
  have hl : lv_has ls 3 [(0, .ref p0), (1, .int p1), (2, .int 0)] := hl
  refine lv_aload_n hx hb dX11_number__0 rfl (lv_at hl 0 rfl) ?_
  refine lv_iload_n hx hb dX11_number__1 rfl (lv_at hl 1 rfl) ?_
  have hPc := hP.sub (ws' := [(p0, .inr (11, [.int 0, .int 0, .int 0, .int 1, .long 1, .ref p2, .ref p3, .int 1, .ref p4, .int 0, .int 0, .int 1, .ref p5, .ref p6, .ref p7, .int 0, .ref p8, .int 0, .ref p9, .int 0, .int 0, .ref p10, .int 0, .ref p11, .int 0, .ref p12, .ref p13, .ref p14, .ref p15, .ref p16, .ref p17, .ref p18, .int 0, .int 0, .int 0, .int 0, .ref p19, .ref p20, .ref p21, .ref p22, .ref p23, .ref p24, .ref p25, .ref p26, .ref p27, .int 0, .int 0, .ref p28, .ref p29, .ref p30, .ref p31, .int 0, .int 0, .int 0, .int 0, .int 0, .int 0, .int 0, .int 0, .int 0, .int 0, .int 0, .int (-1), .int 0, .ref p32, .ref p33, .int 0, .ref p34, .ref p35, .ref p36, .ref p37, .int 0, .int (-1), .int 0, .int 0, .ref p38]))]) [0] rfl
  have hDc := hD.sub (ws' := [(p0, .inr (11, [.int 0, .int 0, .int 0, .int 1, .long 1, .ref p2, .ref p3, .int 1, .ref p4, .int 0, .int 0, .int 1, .ref p5, .ref p6, .ref p7, .int 0, .ref p8, .int 0, .ref p9, .int 0, .int 0, .ref p10, .int 0, .ref p11, .int 0, .ref p12, .ref p13, .ref p14, .ref p15, .ref p16, .ref p17, .ref p18, .int 0, .int 0, .int 0, .int 0, .ref p19, .ref p20, .ref p21, .ref p22, .ref p23, .ref p24, .ref p25, .ref p26, .ref p27, .int 0, .int 0, .ref p28, .ref p29, .ref p30, .ref p31, .int 0, .int 0, .int 0, .int 0, .int 0, .int 0, .int 0, .int 0, .int 0, .int 0, .int 0, .int (-1), .int 0, .ref p32, .ref p33, .int 0, .ref p34, .ref p35, .ref p36, .ref p37, .int 0, .int (-1), .int 0, .int 0, .ref p38]))]) [0] (by decide) rfl
  have hFc := va_free (wc := [(p0, .inr (11, [.int 0, .int 0, .int 0, .int 1, .long 1, .ref p2, .ref p3, .int 1, .ref p4, .int 0, .int 0, .int 1, .ref p5, .ref p6, .ref p7, .int 0, .ref p8, .int 0, .ref p9, .int 0, .int 0, .ref p10, .int 0, .ref p11, .int 0, .ref p12, .ref p13, .ref p14, .ref p15, .ref p16, .ref p17, .ref p18, .int 0, .int 0, .int 0, .int 0, .ref p19, .ref p20, .ref p21, .ref p22, .ref p23, .ref p24, .ref p25, .ref p26, .ref p27, .int 0, .int 0, .ref p28, .ref p29, .ref p30, .ref p31, .int 0, .int 0, .int 0, .int 0, .int 0, .int 0, .int 0, .int 0, .int 0, .int 0, .int 0, .int (-1), .int 0, .ref p32, .ref p33, .int 0, .ref p34, .ref p35, .ref p36, .ref p37, .int 0, .int (-1), .int 0, .int 0, .ref p38]))]) hD hS hA [0] rfl
  refine va_calli (va_runV (As := [.int p1]) (rest := []) ⟨hx, hb, hml, hown, hW⟩ (c_X11_viewed_0 l dC dI cI cB p0 p1 p2 p3 p4 p5 p6 p7 p8 p9 p10 p11 p12 p13 p14 p15 p16 p17 p18 p19 p20 p21 p22 p23 p24 p25 p26 p27 p28 p29 p30 p31 p32 p33 p34 p35 p36 p37 p38 s.heap.size) (cwV 1 hW (gV mw_413 mw_414 mw_415 mw_142 mw_412) rfl rfl rfl (by decide +kernel) ⟨Nat.le_of_ble_eq_true rfl, Nat.le_of_ble_eq_true rfl⟩) ⟨PB_blind _, va_recv hK hP (ci := 11) (q0 := 0) rfl rfl, fun U hU hW2 => ⟨rfl, PB_at hU hW2 hPc hK hDc hN⟩⟩ rfl rfl hl.1 rfl (lv_room (Nat.le_of_ble_eq_true rfl)) dX11_number__2 ⟨Nat.le_of_ble_eq_true rfl, Nat.le_of_ble_eq_true rfl⟩) hS (fun q _ h => hFc q h) hFc (fun r u t H1 locs ht hvm hw hB hz1 hk1 hS => ?_)
  have hq := hB
  obtain ⟨hP, hD⟩ := after (wr := []) (w1 := [(p0, .inr (11, [.int 0, .int 0, .int 0, .int 1, .long 1, .ref p2, .ref p3, .int 1, .ref p4, .int 0, .int 0, .int 1, .ref p5, .ref p6, .ref p7, .int 0, .ref p8, .int 0, .ref p9, .int 0, .int 0, .ref p10, .int 0, .ref p11, .int 0, .ref p12, .ref p13, .ref p14, .ref p15, .ref p16, .ref p17, .ref p18, .int 0, .int 0, .int 0, .int 0, .ref p19, .ref p20, .ref p21, .ref p22, .ref p23, .ref p24, .ref p25, .ref p26, .ref p27, .int 0, .int 0, .ref p28, .ref p29, .ref p30, .ref p31, .int 0, .int 0, .int 0, .int 0, .int 0, .int 0, .int 0, .int 0, .int 0, .int 0, .int 0, .int (-1), .int 0, .ref p32, .ref p33, .int 0, .ref p34, .ref p35, .ref p36, .ref p37, .int 0, .int (-1), .int 0, .int 0, .ref p38]))]) hP hD [0] [] rfl rfl (by decide) (by decide) hk1 hFc ht hq
  generalize H1 = H at hP hS ⊢
  have hP : va_P (dC, dI) vwCl [(p0, .inr (11, [.int 0, .int 0, .int 0, .int 1, .long 1, .ref p2, .ref p3, .int 1, .ref p4, .int 0, .int 0, .int 1, .ref p5, .ref p6, .ref p7, .int 0, .ref p8, .int 0, .ref p9, .int 0, .int 0, .ref p10, .int 0, .ref p11, .int 0, .ref p12, .ref p13, .ref p14, .ref p15, .ref p16, .ref p17, .ref p18, .int 0, .int 0, .int 0, .int 0, .ref p19, .ref p20, .ref p21, .ref p22, .ref p23, .ref p24, .ref p25, .ref p26, .ref p27, .int 0, .int 0, .ref p28, .ref p29, .ref p30, .ref p31, .int 0, .int 0, .int 0, .int 0, .int 0, .int 0, .int 0, .int 0, .int 0, .int 0, .int 0, .int (-1), .int 0, .ref p32, .ref p33, .int 0, .ref p34, .ref p35, .ref p36, .ref p37, .int 0, .int (-1), .int 0, .int 0, .ref p38]))] H := hP
  have hD : va_D A [(p0, .inr (11, [.int 0, .int 0, .int 0, .int 1, .long 1, .ref p2, .ref p3, .int 1, .ref p4, .int 0, .int 0, .int 1, .ref p5, .ref p6, .ref p7, .int 0, .ref p8, .int 0, .ref p9, .int 0, .int 0, .ref p10, .int 0, .ref p11, .int 0, .ref p12, .ref p13, .ref p14, .ref p15, .ref p16, .ref p17, .ref p18, .int 0, .int 0, .int 0, .int 0, .ref p19, .ref p20, .ref p21, .ref p22, .ref p23, .ref p24, .ref p25, .ref p26, .ref p27, .int 0, .int 0, .ref p28, .ref p29, .ref p30, .ref p31, .int 0, .int 0, .int 0, .int 0, .int 0, .int 0, .int 0, .int 0, .int 0, .int 0, .int 0, .int (-1), .int 0, .ref p32, .ref p33, .int 0, .ref p34, .ref p35, .ref p36, .ref p37, .int 0, .int (-1), .int 0, .int 0, .ref p38]))] := hD
  refine tp_i 0 hw ?_
  refine lv_if_eq (tgt := 15) hx hb dX11_number__5 (by decide) (fun _ => ?_) (fun c => absurd (by decide) c)
  refine lv_iconst (v := 0) hx hb dX11_number__15 (by decide) ?_
  refine W.widen (k := 0) (n := 0) (Nat.le_of_ble_eq_true rfl) (Nat.le_of_ble_eq_true rfl) ?_
  exact W.iret (v := 0) hx hb hr (fun t ht hW9 => ⟨⟨0, (), rfl, rfl, trivial⟩, hS.F ht⟩) hS.2.2 dX11_number__16

set_option maxHeartbeats 4000000 in
set_option maxRecDepth 100000 in
/-- X10_number_1 -/
theorem c_X10_number_1 (l : Launch) (dC : Nat → ClassId) (dI : Nat → Nat → Nat) (cI cB : ClassId) (p0 : Nat) (p1 : Int32) (p2 : Nat) (p3 : Nat) (p4 : Nat) (p5 : Nat) (p6 : Nat) (p7 : Nat) (p8 : Nat) (p9 : Nat) (sz : Nat) : Met l yX10_number (.code yX10_number cX10_number 7 (some .int) :: WA) ({ frames := 1, cells := 0, slots := 0, locals := 20 }) (va_Pc [.ref p0, .int p1, .int 1] (PB dC dI cI cB [(p0, .inr (10, [.ref p2, .ref p3, .ref p4, .ref p5, .ref p6, .ref p7, .ref p8, .ref p9, .int 0, .int 0, .int (-1)]))] sz)) (va_Qi (fun (r : Int32) (_ : Unit) => r = 0) (fun _ _ => True) (va_A [(p0, .inr (10, [.ref p2, .ref p3, .ref p4, .ref p5, .ref p6, .ref p7, .ref p8, .ref p9, .int 0, .int 0, .int (-1)]))] sz)) 0 0 (va_A [(p0, .inr (10, [.ref p2, .ref p3, .ref p4, .ref p5, .ref p6, .ref p7, .ref p8, .ref p9, .int 0, .int 0, .int (-1)]))] sz) := by
  refine Met.ofW (cc := cX10_number) (maxL := 7) (ret := (some .int)) (by decide) rfl ?_
  intro p e s m args below meth c s₁ B hml hv
  obtain ⟨rfl, hsz, hP, hK, hD0, hN⟩ := hv
  have hx := B.exec
  have hb := B.bytes
  have hr := B.returns
  have hts := atoms_spec B.pre
  have hW : ∀ w ∈ WA, w.before [.ref p0, .int p1, .int 1].toArray s = true := fun w h => hts w (List.mem_cons_of_mem _ h)
  have hown : s.vm.findClass RX10 = some m.cls := findClass_of_methodNamed B.named
  have hlocks := B.notSynchronized
  subst hsz
  have hD := hD0.self (sz := s.heap.size)
  generalize hAe : va_A [(p0, .inr (10, [.ref p2, .ref p3, .ref p4, .ref p5, .ref p6, .ref p7, .ref p8, .ref p9, .int 0, .int 0, .int (-1)]))] s.heap.size = A at hD ⊢
  have hA : ∀ q : Nat, s.heap.size ≤ q → A q := fun q h => by rw [← hAe]; exact Or.inr h
  have hS : va_S A s.heap s.heap [] := va_S.rf
  have hP : va_P (dC, dI) vwCl [(p0, .inr (10, [.ref p2, .ref p3, .ref p4, .ref p5, .ref p6, .ref p7, .ref p8, .ref p9, .int 0, .int 0, .int (-1)]))] s.heap := hP
  have hl := lv_entry ([.ref p0, .int p1, .int 1]) (n := 7) (Nat.le_of_ble_eq_true rfl)
  rw [lg_entry_eq]
  generalize (lg_sl ([.ref p0, .int p1, .int 1]) ++ List.replicate (7 - (lg_sl ([.ref p0, .int p1, .int 1])).length) Slot.unset).toArray = ls at hl ⊢
  have hl : lv_has ls 7 [(0, .ref p0), (1, .int p1), (2, .int 1)] := hl
  refine lv_aload_n hx hb dX10_number_0 rfl (lv_at hl 0 rfl) ?_
  have hPc := hP.sub (ws' := [(p0, .inr (10, [.ref p2, .ref p3, .ref p4, .ref p5, .ref p6, .ref p7, .ref p8, .ref p9, .int 0, .int 0, .int (-1)]))]) [0] rfl
  have hDc := hD.sub (ws' := [(p0, .inr (10, [.ref p2, .ref p3, .ref p4, .ref p5, .ref p6, .ref p7, .ref p8, .ref p9, .int 0, .int 0, .int (-1)]))]) [0] (by decide) rfl
  have hFc := va_free (wc := [(p0, .inr (10, [.ref p2, .ref p3, .ref p4, .ref p5, .ref p6, .ref p7, .ref p8, .ref p9, .int 0, .int 0, .int (-1)]))]) hD hS hA [0] rfl
  refine va_calli (va_runV (As := []) (rest := []) ⟨hx, hb, hml, hown, hW⟩ (c_X10_viewed_0 l dC dI cI cB p0 p2 p3 p4 p5 p6 p7 p8 p9 s.heap.size) (cwV 0 hW (gV mw_373 mw_374 mw_375 mw_2 mw_372) rfl rfl rfl (by decide +kernel) ⟨Nat.le_of_ble_eq_true rfl, Nat.le_of_ble_eq_true rfl⟩) ⟨PB_blind _, va_recv hK hP (ci := 10) (q0 := 0) rfl rfl, fun U hU hW2 => ⟨rfl, PB_at hU hW2 hPc hK hDc hN⟩⟩ rfl rfl hl.1 rfl (lv_room (Nat.le_of_ble_eq_true rfl)) dX10_number_1 ⟨Nat.le_of_ble_eq_true rfl, Nat.le_of_ble_eq_true rfl⟩) hS (fun q _ h => hFc q h) hFc (fun r u t H1 locs ht hvm hw hB hz1 hk1 hS => ?_)
  have hq := hB
  obtain ⟨hP, hD⟩ := after (wr := []) (w1 := [(p0, .inr (10, [.ref p2, .ref p3, .ref p4, .ref p5, .ref p6, .ref p7, .ref p8, .ref p9, .int 0, .int 0, .int (-1)]))]) hP hD [0] [] rfl rfl (by decide) (by decide) hk1 hFc ht hq
  generalize H1 = H at hP hS ⊢
  have hP : va_P (dC, dI) vwCl [(p0, .inr (10, [.ref p2, .ref p3, .ref p4, .ref p5, .ref p6, .ref p7, .ref p8, .ref p9, .int 0, .int 0, .int (-1)]))] H := hP
  have hD : va_D A [(p0, .inr (10, [.ref p2, .ref p3, .ref p4, .ref p5, .ref p6, .ref p7, .ref p8, .ref p9, .int 0, .int 0, .int (-1)]))] := hD
  refine tp_i 0 hw ?_
  refine lv_istore_n (lv' := [(3, .int 0), (0, .ref p0), (1, .int p1), (2, .int 1)]) hx hb dX10_number_4 rfl hl (by decide) rfl (fun ls hl => ?_)
  refine lv_iload_n hx hb dX10_number_5 rfl (lv_at hl 0 rfl) ?_
  refine lv_if_eq (tgt := 26) hx hb dX10_number_6 (by decide) (fun _ => ?_) (fun c => absurd (by decide) c)
  refine lv_iconst (v := 0) hx hb dX10_number_26 (by decide) ?_
  refine W.widen (k := 0) (n := 0) (Nat.le_of_ble_eq_true rfl) (Nat.le_of_ble_eq_true rfl) ?_
  exact W.iret (v := 0) hx hb hr (fun t ht hW9 => ⟨⟨0, (), rfl, rfl, trivial⟩, hS.F ht⟩) hS.2.2 dX10_number_27

set_option maxHeartbeats 4000000 in
set_option maxRecDepth 100000 in
/-- X11_number__1 -/
theorem c_X11_number__1 (l : Launch) (dC : Nat → ClassId) (dI : Nat → Nat → Nat) (cI cB : ClassId) (p0 : Nat) (p1 : Int32) (p2 : Nat) (p3 : Nat) (p4 : Nat) (p5 : Nat) (p6 : Nat) (p7 : Nat) (p8 : Nat) (p9 : Nat) (p10 : Nat) (p11 : Nat) (p12 : Nat) (p13 : Nat) (p14 : Nat) (p15 : Nat) (p16 : Nat) (p17 : Nat) (p18 : Nat) (p19 : Nat) (p20 : Nat) (p21 : Nat) (p22 : Nat) (p23 : Nat) (p24 : Nat) (p25 : Nat) (p26 : Nat) (p27 : Nat) (p28 : Nat) (p29 : Nat) (p30 : Nat) (p31 : Nat) (p32 : Nat) (p33 : Nat) (p34 : Nat) (p35 : Nat) (p36 : Nat) (p37 : Nat) (p38 : Nat) (sz : Nat) : Met l yX11_number_ (.code yX11_number_ cX11_number_ 3 (some .int) :: WA) ({ frames := 1, cells := 0, slots := 0, locals := 21 }) (va_Pc [.ref p0, .int p1, .int 1] (PB dC dI cI cB [(p0, .inr (11, [.int 0, .int 0, .int 0, .int 1, .long 1, .ref p2, .ref p3, .int 1, .ref p4, .int 0, .int 0, .int 1, .ref p5, .ref p6, .ref p7, .int 0, .ref p8, .int 0, .ref p9, .int 0, .int 0, .ref p10, .int 0, .ref p11, .int 0, .ref p12, .ref p13, .ref p14, .ref p15, .ref p16, .ref p17, .ref p18, .int 0, .int 0, .int 0, .int 0, .ref p19, .ref p20, .ref p21, .ref p22, .ref p23, .ref p24, .ref p25, .ref p26, .ref p27, .int 0, .int 0, .ref p28, .ref p29, .ref p30, .ref p31, .int 0, .int 0, .int 0, .int 0, .int 0, .int 0, .int 0, .int 0, .int 0, .int 0, .int 0, .int (-1), .int 0, .ref p32, .ref p33, .int 0, .ref p34, .ref p35, .ref p36, .ref p37, .int 0, .int (-1), .int 0, .int 0, .ref p38]))] sz)) (va_Qi (fun (r : Int32) (_ : Unit) => r = 0) (fun _ _ => True) (va_A [(p0, .inr (11, [.int 0, .int 0, .int 0, .int 1, .long 1, .ref p2, .ref p3, .int 1, .ref p4, .int 0, .int 0, .int 1, .ref p5, .ref p6, .ref p7, .int 0, .ref p8, .int 0, .ref p9, .int 0, .int 0, .ref p10, .int 0, .ref p11, .int 0, .ref p12, .ref p13, .ref p14, .ref p15, .ref p16, .ref p17, .ref p18, .int 0, .int 0, .int 0, .int 0, .ref p19, .ref p20, .ref p21, .ref p22, .ref p23, .ref p24, .ref p25, .ref p26, .ref p27, .int 0, .int 0, .ref p28, .ref p29, .ref p30, .ref p31, .int 0, .int 0, .int 0, .int 0, .int 0, .int 0, .int 0, .int 0, .int 0, .int 0, .int 0, .int (-1), .int 0, .ref p32, .ref p33, .int 0, .ref p34, .ref p35, .ref p36, .ref p37, .int 0, .int (-1), .int 0, .int 0, .ref p38]))] sz)) 0 0 (va_A [(p0, .inr (11, [.int 0, .int 0, .int 0, .int 1, .long 1, .ref p2, .ref p3, .int 1, .ref p4, .int 0, .int 0, .int 1, .ref p5, .ref p6, .ref p7, .int 0, .ref p8, .int 0, .ref p9, .int 0, .int 0, .ref p10, .int 0, .ref p11, .int 0, .ref p12, .ref p13, .ref p14, .ref p15, .ref p16, .ref p17, .ref p18, .int 0, .int 0, .int 0, .int 0, .ref p19, .ref p20, .ref p21, .ref p22, .ref p23, .ref p24, .ref p25, .ref p26, .ref p27, .int 0, .int 0, .ref p28, .ref p29, .ref p30, .ref p31, .int 0, .int 0, .int 0, .int 0, .int 0, .int 0, .int 0, .int 0, .int 0, .int 0, .int 0, .int (-1), .int 0, .ref p32, .ref p33, .int 0, .ref p34, .ref p35, .ref p36, .ref p37, .int 0, .int (-1), .int 0, .int 0, .ref p38]))] sz) := by
  refine Met.ofW (cc := cX11_number_) (maxL := 3) (ret := (some .int)) (by decide) rfl ?_
  intro p e s m args below meth c s₁ B hml hv
  obtain ⟨rfl, hsz, hP, hK, hD0, hN⟩ := hv
  have hx := B.exec
  have hb := B.bytes
  have hr := B.returns
  have hts := atoms_spec B.pre
  have hW : ∀ w ∈ WA, w.before [.ref p0, .int p1, .int 1].toArray s = true := fun w h => hts w (List.mem_cons_of_mem _ h)
  have hown : s.vm.findClass RX11 = some m.cls := findClass_of_methodNamed B.named
  have hlocks := B.notSynchronized
  subst hsz
  have hD := hD0.self (sz := s.heap.size)
  generalize hAe : va_A [(p0, .inr (11, [.int 0, .int 0, .int 0, .int 1, .long 1, .ref p2, .ref p3, .int 1, .ref p4, .int 0, .int 0, .int 1, .ref p5, .ref p6, .ref p7, .int 0, .ref p8, .int 0, .ref p9, .int 0, .int 0, .ref p10, .int 0, .ref p11, .int 0, .ref p12, .ref p13, .ref p14, .ref p15, .ref p16, .ref p17, .ref p18, .int 0, .int 0, .int 0, .int 0, .ref p19, .ref p20, .ref p21, .ref p22, .ref p23, .ref p24, .ref p25, .ref p26, .ref p27, .int 0, .int 0, .ref p28, .ref p29, .ref p30, .ref p31, .int 0, .int 0, .int 0, .int 0, .int 0, .int 0, .int 0, .int 0, .int 0, .int 0, .int 0, .int (-1), .int 0, .ref p32, .ref p33, .int 0, .ref p34, .ref p35, .ref p36, .ref p37, .int 0, .int (-1), .int 0, .int 0, .ref p38]))] s.heap.size = A at hD ⊢
  have hA : ∀ q : Nat, s.heap.size ≤ q → A q := fun q h => by rw [← hAe]; exact Or.inr h
  have hS : va_S A s.heap s.heap [] := va_S.rf
  have hP : va_P (dC, dI) vwCl [(p0, .inr (11, [.int 0, .int 0, .int 0, .int 1, .long 1, .ref p2, .ref p3, .int 1, .ref p4, .int 0, .int 0, .int 1, .ref p5, .ref p6, .ref p7, .int 0, .ref p8, .int 0, .ref p9, .int 0, .int 0, .ref p10, .int 0, .ref p11, .int 0, .ref p12, .ref p13, .ref p14, .ref p15, .ref p16, .ref p17, .ref p18, .int 0, .int 0, .int 0, .int 0, .ref p19, .ref p20, .ref p21, .ref p22, .ref p23, .ref p24, .ref p25, .ref p26, .ref p27, .int 0, .int 0, .ref p28, .ref p29, .ref p30, .ref p31, .int 0, .int 0, .int 0, .int 0, .int 0, .int 0, .int 0, .int 0, .int 0, .int 0, .int 0, .int (-1), .int 0, .ref p32, .ref p33, .int 0, .ref p34, .ref p35, .ref p36, .ref p37, .int 0, .int (-1), .int 0, .int 0, .ref p38]))] s.heap := hP
  have hl := lv_entry ([.ref p0, .int p1, .int 1]) (n := 3) (Nat.le_of_ble_eq_true rfl)
  rw [lg_entry_eq]
  generalize (lg_sl ([.ref p0, .int p1, .int 1]) ++ List.replicate (3 - (lg_sl ([.ref p0, .int p1, .int 1])).length) Slot.unset).toArray = ls at hl ⊢
  have hl : lv_has ls 3 [(0, .ref p0), (1, .int p1), (2, .int 1)] := hl
  refine lv_aload_n hx hb dX11_number__0 rfl (lv_at hl 0 rfl) ?_
  refine lv_iload_n hx hb dX11_number__1 rfl (lv_at hl 1 rfl) ?_
  have hPc := hP.sub (ws' := [(p0, .inr (11, [.int 0, .int 0, .int 0, .int 1, .long 1, .ref p2, .ref p3, .int 1, .ref p4, .int 0, .int 0, .int 1, .ref p5, .ref p6, .ref p7, .int 0, .ref p8, .int 0, .ref p9, .int 0, .int 0, .ref p10, .int 0, .ref p11, .int 0, .ref p12, .ref p13, .ref p14, .ref p15, .ref p16, .ref p17, .ref p18, .int 0, .int 0, .int 0, .int 0, .ref p19, .ref p20, .ref p21, .ref p22, .ref p23, .ref p24, .ref p25, .ref p26, .ref p27, .int 0, .int 0, .ref p28, .ref p29, .ref p30, .ref p31, .int 0, .int 0, .int 0, .int 0, .int 0, .int 0, .int 0, .int 0, .int 0, .int 0, .int 0, .int (-1), .int 0, .ref p32, .ref p33, .int 0, .ref p34, .ref p35, .ref p36, .ref p37, .int 0, .int (-1), .int 0, .int 0, .ref p38]))]) [0] rfl
  have hDc := hD.sub (ws' := [(p0, .inr (11, [.int 0, .int 0, .int 0, .int 1, .long 1, .ref p2, .ref p3, .int 1, .ref p4, .int 0, .int 0, .int 1, .ref p5, .ref p6, .ref p7, .int 0, .ref p8, .int 0, .ref p9, .int 0, .int 0, .ref p10, .int 0, .ref p11, .int 0, .ref p12, .ref p13, .ref p14, .ref p15, .ref p16, .ref p17, .ref p18, .int 0, .int 0, .int 0, .int 0, .ref p19, .ref p20, .ref p21, .ref p22, .ref p23, .ref p24, .ref p25, .ref p26, .ref p27, .int 0, .int 0, .ref p28, .ref p29, .ref p30, .ref p31, .int 0, .int 0, .int 0, .int 0, .int 0, .int 0, .int 0, .int 0, .int 0, .int 0, .int 0, .int (-1), .int 0, .ref p32, .ref p33, .int 0, .ref p34, .ref p35, .ref p36, .ref p37, .int 0, .int (-1), .int 0, .int 0, .ref p38]))]) [0] (by decide) rfl
  have hFc := va_free (wc := [(p0, .inr (11, [.int 0, .int 0, .int 0, .int 1, .long 1, .ref p2, .ref p3, .int 1, .ref p4, .int 0, .int 0, .int 1, .ref p5, .ref p6, .ref p7, .int 0, .ref p8, .int 0, .ref p9, .int 0, .int 0, .ref p10, .int 0, .ref p11, .int 0, .ref p12, .ref p13, .ref p14, .ref p15, .ref p16, .ref p17, .ref p18, .int 0, .int 0, .int 0, .int 0, .ref p19, .ref p20, .ref p21, .ref p22, .ref p23, .ref p24, .ref p25, .ref p26, .ref p27, .int 0, .int 0, .ref p28, .ref p29, .ref p30, .ref p31, .int 0, .int 0, .int 0, .int 0, .int 0, .int 0, .int 0, .int 0, .int 0, .int 0, .int 0, .int (-1), .int 0, .ref p32, .ref p33, .int 0, .ref p34, .ref p35, .ref p36, .ref p37, .int 0, .int (-1), .int 0, .int 0, .ref p38]))]) hD hS hA [0] rfl
  refine va_calli (va_runV (As := [.int p1]) (rest := []) ⟨hx, hb, hml, hown, hW⟩ (c_X11_viewed_0 l dC dI cI cB p0 p1 p2 p3 p4 p5 p6 p7 p8 p9 p10 p11 p12 p13 p14 p15 p16 p17 p18 p19 p20 p21 p22 p23 p24 p25 p26 p27 p28 p29 p30 p31 p32 p33 p34 p35 p36 p37 p38 s.heap.size) (cwV 1 hW (gV mw_413 mw_414 mw_415 mw_142 mw_412) rfl rfl rfl (by decide +kernel) ⟨Nat.le_of_ble_eq_true rfl, Nat.le_of_ble_eq_true rfl⟩) ⟨PB_blind _, va_recv hK hP (ci := 11) (q0 := 0) rfl rfl, fun U hU hW2 => ⟨rfl, PB_at hU hW2 hPc hK hDc hN⟩⟩ rfl rfl hl.1 rfl (lv_room (Nat.le_of_ble_eq_true rfl)) dX11_number__2 ⟨Nat.le_of_ble_eq_true rfl, Nat.le_of_ble_eq_true rfl⟩) hS (fun q _ h => hFc q h) hFc (fun r u t H1 locs ht hvm hw hB hz1 hk1 hS => ?_)
  have hq := hB
  obtain ⟨hP, hD⟩ := after (wr := []) (w1 := [(p0, .inr (11, [.int 0, .int 0, .int 0, .int 1, .long 1, .ref p2, .ref p3, .int 1, .ref p4, .int 0, .int 0, .int 1, .ref p5, .ref p6, .ref p7, .int 0, .ref p8, .int 0, .ref p9, .int 0, .int 0, .ref p10, .int 0, .ref p11, .int 0, .ref p12, .ref p13, .ref p14, .ref p15, .ref p16, .ref p17, .ref p18, .int 0, .int 0, .int 0, .int 0, .ref p19, .ref p20, .ref p21, .ref p22, .ref p23, .ref p24, .ref p25, .ref p26, .ref p27, .int 0, .int 0, .ref p28, .ref p29, .ref p30, .ref p31, .int 0, .int 0, .int 0, .int 0, .int 0, .int 0, .int 0, .int 0, .int 0, .int 0, .int 0, .int (-1), .int 0, .ref p32, .ref p33, .int 0, .ref p34, .ref p35, .ref p36, .ref p37, .int 0, .int (-1), .int 0, .int 0, .ref p38]))]) hP hD [0] [] rfl rfl (by decide) (by decide) hk1 hFc ht hq
  generalize H1 = H at hP hS ⊢
  have hP : va_P (dC, dI) vwCl [(p0, .inr (11, [.int 0, .int 0, .int 0, .int 1, .long 1, .ref p2, .ref p3, .int 1, .ref p4, .int 0, .int 0, .int 1, .ref p5, .ref p6, .ref p7, .int 0, .ref p8, .int 0, .ref p9, .int 0, .int 0, .ref p10, .int 0, .ref p11, .int 0, .ref p12, .ref p13, .ref p14, .ref p15, .ref p16, .ref p17, .ref p18, .int 0, .int 0, .int 0, .int 0, .ref p19, .ref p20, .ref p21, .ref p22, .ref p23, .ref p24, .ref p25, .ref p26, .ref p27, .int 0, .int 0, .ref p28, .ref p29, .ref p30, .ref p31, .int 0, .int 0, .int 0, .int 0, .int 0, .int 0, .int 0, .int 0, .int 0, .int 0, .int 0, .int (-1), .int 0, .ref p32, .ref p33, .int 0, .ref p34, .ref p35, .ref p36, .ref p37, .int 0, .int (-1), .int 0, .int 0, .ref p38]))] H := hP
  have hD : va_D A [(p0, .inr (11, [.int 0, .int 0, .int 0, .int 1, .long 1, .ref p2, .ref p3, .int 1, .ref p4, .int 0, .int 0, .int 1, .ref p5, .ref p6, .ref p7, .int 0, .ref p8, .int 0, .ref p9, .int 0, .int 0, .ref p10, .int 0, .ref p11, .int 0, .ref p12, .ref p13, .ref p14, .ref p15, .ref p16, .ref p17, .ref p18, .int 0, .int 0, .int 0, .int 0, .ref p19, .ref p20, .ref p21, .ref p22, .ref p23, .ref p24, .ref p25, .ref p26, .ref p27, .int 0, .int 0, .ref p28, .ref p29, .ref p30, .ref p31, .int 0, .int 0, .int 0, .int 0, .int 0, .int 0, .int 0, .int 0, .int 0, .int 0, .int 0, .int (-1), .int 0, .ref p32, .ref p33, .int 0, .ref p34, .ref p35, .ref p36, .ref p37, .int 0, .int (-1), .int 0, .int 0, .ref p38]))] := hD
  refine tp_i 0 hw ?_
  refine lv_if_eq (tgt := 15) hx hb dX11_number__5 (by decide) (fun _ => ?_) (fun c => absurd (by decide) c)
  refine lv_iconst (v := 0) hx hb dX11_number__15 (by decide) ?_
  refine W.widen (k := 0) (n := 0) (Nat.le_of_ble_eq_true rfl) (Nat.le_of_ble_eq_true rfl) ?_
  exact W.iret (v := 0) hx hb hr (fun t ht hW9 => ⟨⟨0, (), rfl, rfl, trivial⟩, hS.F ht⟩) hS.2.2 dX11_number__16

set_option maxHeartbeats 4000000 in
set_option maxRecDepth 100000 in
/-- X10_meaning_0 -/
theorem c_X10_meaning_0 (l : Launch) (dC : Nat → ClassId) (dI : Nat → Nat → Nat) (cI cB : ClassId) (p0 : Nat) (p1 : Nat) (p2 : Nat) (p3 : Nat) (p4 : Nat) (p5 : Nat) (p6 : Nat) (p7 : Nat) (p8 : Nat) (p9 : Nat) (p10 : Nat) (p11 : Nat) (p12 : Nat) (p13 : Nat) (p14 : Nat) (p15 : Nat) (p16 : Nat) (p17 : Nat) (p18 : Nat) (p19 : Nat) (sz : Nat) : Met l yX10_meaning (.code yX10_meaning cX10_meaning 4 (some .int) :: WA) ({ frames := 2, cells := 0, slots := 0, locals := 42 }) (va_Pc [.ref p0, .int 1] (PB dC dI cI cB [(p0, .inr (10, [.ref p1, .ref p2, .ref p3, .ref p4, .ref p5, .ref p6, .ref p7, .ref p8, .int 0, .int 0, .int (-1)])), (p4, .inr (3, [.ref p1, .ref p2, .ref p3, .ref p9, .ref p10, .ref p11, .ref p12, .ref p13, .ref p14, .ref p15, .ref p16, .ref p17, .ref p18, .ref p19, .int 0, .int 0])), (p11, .inl (cI, 860, .inl (fun _ => 0)))] sz)) (va_Qi (fun (r : Int32) (_ : Unit) => r = 0) (fun (_ : Unit) t => QB dC dI cI cB [(p0, .inr (10, [.ref p1, .ref p2, .ref p3, .ref p4, .ref p5, .ref p6, .ref p7, .ref p8, .int 0, .int 0, .int (-1)])), (p4, .inr (3, [.ref p1, .ref p2, .ref p3, .ref p9, .ref p10, .ref p11, .ref p12, .ref p13, .ref p14, .ref p15, .ref p16, .ref p17, .ref p18, .ref p19, .int 0, .int 0])), (p11, .inl (cI, 860, .inl (fun _ => 0)))] (va_A [(p0, .inr (10, [.ref p1, .ref p2, .ref p3, .ref p4, .ref p5, .ref p6, .ref p7, .ref p8, .int 0, .int 0, .int (-1)])), (p4, .inr (3, [.ref p1, .ref p2, .ref p3, .ref p9, .ref p10, .ref p11, .ref p12, .ref p13, .ref p14, .ref p15, .ref p16, .ref p17, .ref p18, .ref p19, .int 0, .int 0])), (p11, .inl (cI, 860, .inl (fun _ => 0)))] sz) t) (va_A [(p0, .inr (10, [.ref p1, .ref p2, .ref p3, .ref p4, .ref p5, .ref p6, .ref p7, .ref p8, .int 0, .int 0, .int (-1)])), (p4, .inr (3, [.ref p1, .ref p2, .ref p3, .ref p9, .ref p10, .ref p11, .ref p12, .ref p13, .ref p14, .ref p15, .ref p16, .ref p17, .ref p18, .ref p19, .int 0, .int 0])), (p11, .inl (cI, 860, .inl (fun _ => 0)))] sz)) 0 0 (va_A [(p0, .inr (10, [.ref p1, .ref p2, .ref p3, .ref p4, .ref p5, .ref p6, .ref p7, .ref p8, .int 0, .int 0, .int (-1)])), (p4, .inr (3, [.ref p1, .ref p2, .ref p3, .ref p9, .ref p10, .ref p11, .ref p12, .ref p13, .ref p14, .ref p15, .ref p16, .ref p17, .ref p18, .ref p19, .int 0, .int 0])), (p11, .inl (cI, 860, .inl (fun _ => 0)))] sz) := by
  refine Met.ofW (cc := cX10_meaning) (maxL := 4) (ret := (some .int)) (by decide) rfl ?_
  intro p e s m args below meth c s₁ B hml hv
  obtain ⟨rfl, hsz, hP, hK, hD0, hN⟩ := hv
  have hx := B.exec
  have hb := B.bytes
  have hr := B.returns
  have hts := atoms_spec B.pre
  have hW : ∀ w ∈ WA, w.before [.ref p0, .int 1].toArray s = true := fun w h => hts w (List.mem_cons_of_mem _ h)
  have hown : s.vm.findClass RX10 = some m.cls := findClass_of_methodNamed B.named
  have hlocks := B.notSynchronized
  subst hsz
  have hD := hD0.self (sz := s.heap.size)
  generalize hAe : va_A [(p0, .inr (10, [.ref p1, .ref p2, .ref p3, .ref p4, .ref p5, .ref p6, .ref p7, .ref p8, .int 0, .int 0, .int (-1)])), (p4, .inr (3, [.ref p1, .ref p2, .ref p3, .ref p9, .ref p10, .ref p11, .ref p12, .ref p13, .ref p14, .ref p15, .ref p16, .ref p17, .ref p18, .ref p19, .int 0, .int 0])), (p11, .inl (cI, 860, .inl (fun _ => 0)))] s.heap.size = A at hD ⊢
  have hA : ∀ q : Nat, s.heap.size ≤ q → A q := fun q h => by rw [← hAe]; exact Or.inr h
  have hS : va_S A s.heap s.heap [] := va_S.rf
  have hP : va_P (dC, dI) vwCl [(p0, .inr (10, [.ref p1, .ref p2, .ref p3, .ref p4, .ref p5, .ref p6, .ref p7, .ref p8, .int 0, .int 0, .int (-1)])), (p4, .inr (3, [.ref p1, .ref p2, .ref p3, .ref p9, .ref p10, .ref p11, .ref p12, .ref p13, .ref p14, .ref p15, .ref p16, .ref p17, .ref p18, .ref p19, .int 0, .int 0])), (p11, .inl (cI, 860, .inl (fun _ => 0)))] s.heap := hP
  have hl := lv_entry ([.ref p0, .int 1]) (n := 4) (Nat.le_of_ble_eq_true rfl)
  rw [lg_entry_eq]
  generalize (lg_sl ([.ref p0, .int 1]) ++ List.replicate (4 - (lg_sl ([.ref p0, .int 1])).length) Slot.unset).toArray = ls at hl ⊢
  have hl : lv_has ls 4 [(0, .ref p0), (1, .int 1)] := hl
  refine lv_iconst (v := 0) hx hb dX10_meaning_0 (by decide) ?_
  refine lv_istore_n (lv' := [(2, .int 0), (0, .ref p0), (1, .int 1)]) hx hb dX10_meaning_1 rfl hl (by decide) rfl (fun ls hl => ?_)
  refine lv_iconst (v := 0) hx hb dX10_meaning_2 (by decide) ?_
  refine lv_istore_n (lv' := [(3, .int 0), (2, .int 0), (0, .ref p0), (1, .int 1)]) hx hb dX10_meaning_3 rfl hl (by decide) rfl (fun ls hl => ?_)
  refine lp_ 60 (fun (i4 : Nat) (H : Heap) (locs : List Loc) (ls : Array Slot) => va_P (dC, dI) vwCl [(p0, .inr (10, [.ref p1, .ref p2, .ref p3, .ref p4, .ref p5, .ref p6, .ref p7, .ref p8, .int 0, .int 0, .int (-1)])), (p4, .inr (3, [.ref p1, .ref p2, .ref p3, .ref p9, .ref p10, .ref p11, .ref p12, .ref p13, .ref p14, .ref p15, .ref p16, .ref p17, .ref p18, .ref p19, .int 0, .int 0])), (p11, .inl (cI, 860, .inl (fun _ => 0)))] H ∧ va_D A [(p0, .inr (10, [.ref p1, .ref p2, .ref p3, .ref p4, .ref p5, .ref p6, .ref p7, .ref p8, .int 0, .int 0, .int (-1)])), (p4, .inr (3, [.ref p1, .ref p2, .ref p3, .ref p9, .ref p10, .ref p11, .ref p12, .ref p13, .ref p14, .ref p15, .ref p16, .ref p17, .ref p18, .ref p19, .int 0, .int 0])), (p11, .inl (cI, 860, .inl (fun _ => 0)))] ∧ va_S A s.heap H locs ∧ lv_has ls 4 [(3, .int (nI i4)), (2, .int 0), (0, .ref p0), (1, .int 1)]) ?_ ?_ ⟨hP, hD, hS, hl⟩
  · intro i4 hi4 ih4 H locs ls hI
    obtain ⟨hP, hD, hS, hl⟩ := hI
    refine lv_iload_n hx hb dX10_meaning_4 rfl (lv_at hl 0 rfl) ?_
    refine lv_bipush (v := 60) hx hb dX10_meaning_5 (by decide) ?_
    refine lv_icmp_ge (tgt := 31) hx hb dX10_meaning_7 (by decide) (fun c => absurd c (nI_ge (a := i4) (b := 60) (by omega) (by omega))) (fun _ => ?_)
    refine lv_aload_n hx hb dX10_meaning_10 rfl (lv_at hl 2 rfl) ?_
    refine va_get (D := (dC, dI)) (ci := 10) (v := .ref p4) (C := RX10) (T := TX10) (N := 11) hx hb hW iW_10 hown hK hP 0 rfl rfl 3 (by decide) (hW _ mw_62) (fun _ h9 => h9) rfl dX10_meaning_11 ?_
    refine lv_iload_n hx hb dX10_meaning_14 rfl (lv_at hl 0 rfl) ?_
    have hPc := hP.sub (ws' := [(p11, .inl (cI, 860, .inl (fun _ => 0))), (p4, .inr (3, [.ref p1, .ref p2, .ref p3, .ref p9, .ref p10, .ref p11, .ref p12, .ref p13, .ref p14, .ref p15, .ref p16, .ref p17, .ref p18, .ref p19, .int 0, .int 0]))]) [2, 1] rfl
    have hDc := hD.sub (ws' := [(p11, .inl (cI, 860, .inl (fun _ => 0))), (p4, .inr (3, [.ref p1, .ref p2, .ref p3, .ref p9, .ref p10, .ref p11, .ref p12, .ref p13, .ref p14, .ref p15, .ref p16, .ref p17, .ref p18, .ref p19, .int 0, .int 0]))]) [2, 1] (by decide) rfl
    have hFc := va_free (wc := [(p11, .inl (cI, 860, .inl (fun _ => 0))), (p4, .inr (3, [.ref p1, .ref p2, .ref p3, .ref p9, .ref p10, .ref p11, .ref p12, .ref p13, .ref p14, .ref p15, .ref p16, .ref p17, .ref p18, .ref p19, .int 0, .int 0]))]) hD hS hA [2, 1] rfl
    refine va_calli (va_runVN (As := [.int (nI i4)]) (rest := []) ⟨hx, hb, hml, hown, hW⟩ (c_X3_meansAt_0 l dC dI cI cB p4 (nI i4) p11 p1 p2 p3 p9 p10 p12 p13 p14 p15 p16 p17 p18 p19 H.size) ⟨va_cnB 1 hW (gW mw_252) rfl rfl rfl (hN _ mn_24) (hW _ mw_44) (by decide +kernel) ⟨Nat.le_of_ble_eq_true rfl, Nat.le_of_ble_eq_true rfl⟩, hW _ mw_253, hW _ mw_254⟩ ⟨PB_blind _, va_recv hK hP (ci := 3) (q0 := 1) rfl rfl, fun U hU hW2 => ⟨rfl, PB_at hU hW2 hPc hK hDc hN⟩⟩ rfl rfl hl.1 rfl (lv_room (Nat.le_of_ble_eq_true rfl)) dX10_meaning_15 ⟨Nat.le_of_ble_eq_true rfl, Nat.le_of_ble_eq_true rfl⟩) hS (fun q _ h => hFc q h) hFc (fun r u t H1 locs ht hvm hw hB hz1 hk1 hS => ?_)
    have hq := hB
    obtain ⟨hP, hD⟩ := after (wr := [(p0, .inr (10, [.ref p1, .ref p2, .ref p3, .ref p4, .ref p5, .ref p6, .ref p7, .ref p8, .int 0, .int 0, .int (-1)]))]) (w1 := [(p11, .inl (cI, 860, .inl (fun _ => 0))), (p4, .inr (3, [.ref p1, .ref p2, .ref p3, .ref p9, .ref p10, .ref p11, .ref p12, .ref p13, .ref p14, .ref p15, .ref p16, .ref p17, .ref p18, .ref p19, .int 0, .int 0]))]) hP hD [2, 1] [0] rfl rfl (by decide) (by decide) hk1 hFc ht hq
    generalize H1 = H at hP hS ⊢
    have hP : va_P (dC, dI) vwCl [(p0, .inr (10, [.ref p1, .ref p2, .ref p3, .ref p4, .ref p5, .ref p6, .ref p7, .ref p8, .int 0, .int 0, .int (-1)])), (p11, .inl (cI, 860, .inl (fun _ => 0))), (p4, .inr (3, [.ref p1, .ref p2, .ref p3, .ref p9, .ref p10, .ref p11, .ref p12, .ref p13, .ref p14, .ref p15, .ref p16, .ref p17, .ref p18, .ref p19, .int 0, .int 0]))] H := hP
    have hD : va_D A [(p0, .inr (10, [.ref p1, .ref p2, .ref p3, .ref p4, .ref p5, .ref p6, .ref p7, .ref p8, .int 0, .int 0, .int (-1)])), (p11, .inl (cI, 860, .inl (fun _ => 0))), (p4, .inr (3, [.ref p1, .ref p2, .ref p3, .ref p9, .ref p10, .ref p11, .ref p12, .ref p13, .ref p14, .ref p15, .ref p16, .ref p17, .ref p18, .ref p19, .int 0, .int 0]))] := hD
    refine tp_i 0 hw ?_
    refine lv_iload_n hx hb dX10_meaning_18 rfl (lv_at hl 3 rfl) ?_
    refine lv_icmp_ne (tgt := 25) hx hb dX10_meaning_19 (by decide) (fun _ => ?_) (fun c => absurd c (by decide))
    refine lv_iinc (v := nI (i4 + 1)) (lv' := [(3, .int (nI (i4 + 1))), (2, .int 0), (0, .ref p0), (1, .int 1)]) hx hb dX10_meaning_25 hl (k := 0) rfl (nI_1 _) (by decide) rfl (fun ls hl => ?_)
    refine lv_goto (tgt := 4) hx hb dX10_meaning_28 (by decide) ?_
    exact ih4 _ _ _ ⟨hP.sub [0, 2, 1] rfl, hD.sub [0, 2, 1] (by decide) rfl, hS, lv_sub hl [0, 1, 2, 3] rfl⟩
  · intro H locs ls hI
    obtain ⟨hP, hD, hS, hl⟩ := hI
    have hl : lv_has ls 4 [(3, .int 60), (2, .int 0), (0, .ref p0), (1, .int 1)] := hl
    refine lv_iload_n hx hb dX10_meaning_4 rfl (lv_at hl 0 rfl) ?_
    refine lv_bipush (v := 60) hx hb dX10_meaning_5 (by decide) ?_
    refine lv_icmp_ge (tgt := 31) hx hb dX10_meaning_7 (by decide) (fun _ => ?_) (fun c => absurd (by decide) c)
    refine lv_iload_n hx hb dX10_meaning_31 rfl (lv_at hl 1 rfl) ?_
    have hP9 := hP.sub (ws' := [(p0, .inr (10, [.ref p1, .ref p2, .ref p3, .ref p4, .ref p5, .ref p6, .ref p7, .ref p8, .int 0, .int 0, .int (-1)])), (p4, .inr (3, [.ref p1, .ref p2, .ref p3, .ref p9, .ref p10, .ref p11, .ref p12, .ref p13, .ref p14, .ref p15, .ref p16, .ref p17, .ref p18, .ref p19, .int 0, .int 0])), (p11, .inl (cI, 860, .inl (fun _ => 0)))]) [0, 1, 2] rfl
    have hD9 := hD.sub (ws' := [(p0, .inr (10, [.ref p1, .ref p2, .ref p3, .ref p4, .ref p5, .ref p6, .ref p7, .ref p8, .int 0, .int 0, .int (-1)])), (p4, .inr (3, [.ref p1, .ref p2, .ref p3, .ref p9, .ref p10, .ref p11, .ref p12, .ref p13, .ref p14, .ref p15, .ref p16, .ref p17, .ref p18, .ref p19, .int 0, .int 0])), (p11, .inl (cI, 860, .inl (fun _ => 0)))]) [0, 1, 2] (by decide) rfl
    refine W.widen (k := 0) (n := 0) (Nat.le_of_ble_eq_true rfl) (Nat.le_of_ble_eq_true rfl) ?_
    exact W.iret (v := 0) hx hb hr (fun t ht hW9 => ⟨⟨0, (), rfl, rfl, ⟨by rw [ht]; exact hP9, va_K.moved hW9.alike hK, hD9⟩⟩, hS.F ht⟩) hS.2.2 dX10_meaning_32

set_option maxHeartbeats 4000000 in
set_option maxRecDepth 100000 in
/-- X10_meaning_1 -/
theorem c_X10_meaning_1 (l : Launch) (dC : Nat → ClassId) (dI : Nat → Nat → Nat) (cI cB : ClassId) (p0 : Nat) (p1 : Nat) (p2 : Nat) (p3 : Nat) (p4 : Nat) (p5 : Nat) (p6 : Nat) (p7 : Nat) (p8 : Nat) (p9 : Nat) (p10 : Nat) (p11 : Nat) (p12 : Nat) (p13 : Nat) (p14 : Nat) (p15 : Nat) (p16 : Nat) (p17 : Nat) (p18 : Nat) (p19 : Nat) (sz : Nat) : Met l yX10_meaning (.code yX10_meaning cX10_meaning 4 (some .int) :: WA) ({ frames := 2, cells := 0, slots := 0, locals := 42 }) (va_Pc [.ref p0, .int 2] (PB dC dI cI cB [(p0, .inr (10, [.ref p1, .ref p2, .ref p3, .ref p4, .ref p5, .ref p6, .ref p7, .ref p8, .int 0, .int 0, .int (-1)])), (p4, .inr (3, [.ref p1, .ref p2, .ref p3, .ref p9, .ref p10, .ref p11, .ref p12, .ref p13, .ref p14, .ref p15, .ref p16, .ref p17, .ref p18, .ref p19, .int 0, .int 0])), (p11, .inl (cI, 860, .inl (fun _ => 0)))] sz)) (va_Qi (fun (r : Int32) (_ : Unit) => r = 0) (fun (_ : Unit) t => QB dC dI cI cB [(p0, .inr (10, [.ref p1, .ref p2, .ref p3, .ref p4, .ref p5, .ref p6, .ref p7, .ref p8, .int 0, .int 0, .int (-1)])), (p4, .inr (3, [.ref p1, .ref p2, .ref p3, .ref p9, .ref p10, .ref p11, .ref p12, .ref p13, .ref p14, .ref p15, .ref p16, .ref p17, .ref p18, .ref p19, .int 0, .int 0])), (p11, .inl (cI, 860, .inl (fun _ => 0)))] (va_A [(p0, .inr (10, [.ref p1, .ref p2, .ref p3, .ref p4, .ref p5, .ref p6, .ref p7, .ref p8, .int 0, .int 0, .int (-1)])), (p4, .inr (3, [.ref p1, .ref p2, .ref p3, .ref p9, .ref p10, .ref p11, .ref p12, .ref p13, .ref p14, .ref p15, .ref p16, .ref p17, .ref p18, .ref p19, .int 0, .int 0])), (p11, .inl (cI, 860, .inl (fun _ => 0)))] sz) t) (va_A [(p0, .inr (10, [.ref p1, .ref p2, .ref p3, .ref p4, .ref p5, .ref p6, .ref p7, .ref p8, .int 0, .int 0, .int (-1)])), (p4, .inr (3, [.ref p1, .ref p2, .ref p3, .ref p9, .ref p10, .ref p11, .ref p12, .ref p13, .ref p14, .ref p15, .ref p16, .ref p17, .ref p18, .ref p19, .int 0, .int 0])), (p11, .inl (cI, 860, .inl (fun _ => 0)))] sz)) 0 0 (va_A [(p0, .inr (10, [.ref p1, .ref p2, .ref p3, .ref p4, .ref p5, .ref p6, .ref p7, .ref p8, .int 0, .int 0, .int (-1)])), (p4, .inr (3, [.ref p1, .ref p2, .ref p3, .ref p9, .ref p10, .ref p11, .ref p12, .ref p13, .ref p14, .ref p15, .ref p16, .ref p17, .ref p18, .ref p19, .int 0, .int 0])), (p11, .inl (cI, 860, .inl (fun _ => 0)))] sz) := by
  refine Met.ofW (cc := cX10_meaning) (maxL := 4) (ret := (some .int)) (by decide) rfl ?_
  intro p e s m args below meth c s₁ B hml hv
  obtain ⟨rfl, hsz, hP, hK, hD0, hN⟩ := hv
  have hx := B.exec
  have hb := B.bytes
  have hr := B.returns
  have hts := atoms_spec B.pre
  have hW : ∀ w ∈ WA, w.before [.ref p0, .int 2].toArray s = true := fun w h => hts w (List.mem_cons_of_mem _ h)
  have hown : s.vm.findClass RX10 = some m.cls := findClass_of_methodNamed B.named
  have hlocks := B.notSynchronized
  subst hsz
  have hD := hD0.self (sz := s.heap.size)
  generalize hAe : va_A [(p0, .inr (10, [.ref p1, .ref p2, .ref p3, .ref p4, .ref p5, .ref p6, .ref p7, .ref p8, .int 0, .int 0, .int (-1)])), (p4, .inr (3, [.ref p1, .ref p2, .ref p3, .ref p9, .ref p10, .ref p11, .ref p12, .ref p13, .ref p14, .ref p15, .ref p16, .ref p17, .ref p18, .ref p19, .int 0, .int 0])), (p11, .inl (cI, 860, .inl (fun _ => 0)))] s.heap.size = A at hD ⊢
  have hA : ∀ q : Nat, s.heap.size ≤ q → A q := fun q h => by rw [← hAe]; exact Or.inr h
  have hS : va_S A s.heap s.heap [] := va_S.rf
  have hP : va_P (dC, dI) vwCl [(p0, .inr (10, [.ref p1, .ref p2, .ref p3, .ref p4, .ref p5, .ref p6, .ref p7, .ref p8, .int 0, .int 0, .int (-1)])), (p4, .inr (3, [.ref p1, .ref p2, .ref p3, .ref p9, .ref p10, .ref p11, .ref p12, .ref p13, .ref p14, .ref p15, .ref p16, .ref p17, .ref p18, .ref p19, .int 0, .int 0])), (p11, .inl (cI, 860, .inl (fun _ => 0)))] s.heap := hP
  have hl := lv_entry ([.ref p0, .int 2]) (n := 4) (Nat.le_of_ble_eq_true rfl)
  rw [lg_entry_eq]
  generalize (lg_sl ([.ref p0, .int 2]) ++ List.replicate (4 - (lg_sl ([.ref p0, .int 2])).length) Slot.unset).toArray = ls at hl ⊢
  have hl : lv_has ls 4 [(0, .ref p0), (1, .int 2)] := hl
  refine lv_iconst (v := 0) hx hb dX10_meaning_0 (by decide) ?_
  refine lv_istore_n (lv' := [(2, .int 0), (0, .ref p0), (1, .int 2)]) hx hb dX10_meaning_1 rfl hl (by decide) rfl (fun ls hl => ?_)
  refine lv_iconst (v := 0) hx hb dX10_meaning_2 (by decide) ?_
  refine lv_istore_n (lv' := [(3, .int 0), (2, .int 0), (0, .ref p0), (1, .int 2)]) hx hb dX10_meaning_3 rfl hl (by decide) rfl (fun ls hl => ?_)
  refine lp_ 60 (fun (i4 : Nat) (H : Heap) (locs : List Loc) (ls : Array Slot) => va_P (dC, dI) vwCl [(p0, .inr (10, [.ref p1, .ref p2, .ref p3, .ref p4, .ref p5, .ref p6, .ref p7, .ref p8, .int 0, .int 0, .int (-1)])), (p4, .inr (3, [.ref p1, .ref p2, .ref p3, .ref p9, .ref p10, .ref p11, .ref p12, .ref p13, .ref p14, .ref p15, .ref p16, .ref p17, .ref p18, .ref p19, .int 0, .int 0])), (p11, .inl (cI, 860, .inl (fun _ => 0)))] H ∧ va_D A [(p0, .inr (10, [.ref p1, .ref p2, .ref p3, .ref p4, .ref p5, .ref p6, .ref p7, .ref p8, .int 0, .int 0, .int (-1)])), (p4, .inr (3, [.ref p1, .ref p2, .ref p3, .ref p9, .ref p10, .ref p11, .ref p12, .ref p13, .ref p14, .ref p15, .ref p16, .ref p17, .ref p18, .ref p19, .int 0, .int 0])), (p11, .inl (cI, 860, .inl (fun _ => 0)))] ∧ va_S A s.heap H locs ∧ lv_has ls 4 [(3, .int (nI i4)), (2, .int 0), (0, .ref p0), (1, .int 2)]) ?_ ?_ ⟨hP, hD, hS, hl⟩
  · intro i4 hi4 ih4 H locs ls hI
    obtain ⟨hP, hD, hS, hl⟩ := hI
    refine lv_iload_n hx hb dX10_meaning_4 rfl (lv_at hl 0 rfl) ?_
    refine lv_bipush (v := 60) hx hb dX10_meaning_5 (by decide) ?_
    refine lv_icmp_ge (tgt := 31) hx hb dX10_meaning_7 (by decide) (fun c => absurd c (nI_ge (a := i4) (b := 60) (by omega) (by omega))) (fun _ => ?_)
    refine lv_aload_n hx hb dX10_meaning_10 rfl (lv_at hl 2 rfl) ?_
    refine va_get (D := (dC, dI)) (ci := 10) (v := .ref p4) (C := RX10) (T := TX10) (N := 11) hx hb hW iW_10 hown hK hP 0 rfl rfl 3 (by decide) (hW _ mw_62) (fun _ h9 => h9) rfl dX10_meaning_11 ?_
    refine lv_iload_n hx hb dX10_meaning_14 rfl (lv_at hl 0 rfl) ?_
    have hPc := hP.sub (ws' := [(p11, .inl (cI, 860, .inl (fun _ => 0))), (p4, .inr (3, [.ref p1, .ref p2, .ref p3, .ref p9, .ref p10, .ref p11, .ref p12, .ref p13, .ref p14, .ref p15, .ref p16, .ref p17, .ref p18, .ref p19, .int 0, .int 0]))]) [2, 1] rfl
    have hDc := hD.sub (ws' := [(p11, .inl (cI, 860, .inl (fun _ => 0))), (p4, .inr (3, [.ref p1, .ref p2, .ref p3, .ref p9, .ref p10, .ref p11, .ref p12, .ref p13, .ref p14, .ref p15, .ref p16, .ref p17, .ref p18, .ref p19, .int 0, .int 0]))]) [2, 1] (by decide) rfl
    have hFc := va_free (wc := [(p11, .inl (cI, 860, .inl (fun _ => 0))), (p4, .inr (3, [.ref p1, .ref p2, .ref p3, .ref p9, .ref p10, .ref p11, .ref p12, .ref p13, .ref p14, .ref p15, .ref p16, .ref p17, .ref p18, .ref p19, .int 0, .int 0]))]) hD hS hA [2, 1] rfl
    refine va_calli (va_runVN (As := [.int (nI i4)]) (rest := []) ⟨hx, hb, hml, hown, hW⟩ (c_X3_meansAt_0 l dC dI cI cB p4 (nI i4) p11 p1 p2 p3 p9 p10 p12 p13 p14 p15 p16 p17 p18 p19 H.size) ⟨va_cnB 1 hW (gW mw_252) rfl rfl rfl (hN _ mn_24) (hW _ mw_44) (by decide +kernel) ⟨Nat.le_of_ble_eq_true rfl, Nat.le_of_ble_eq_true rfl⟩, hW _ mw_253, hW _ mw_254⟩ ⟨PB_blind _, va_recv hK hP (ci := 3) (q0 := 1) rfl rfl, fun U hU hW2 => ⟨rfl, PB_at hU hW2 hPc hK hDc hN⟩⟩ rfl rfl hl.1 rfl (lv_room (Nat.le_of_ble_eq_true rfl)) dX10_meaning_15 ⟨Nat.le_of_ble_eq_true rfl, Nat.le_of_ble_eq_true rfl⟩) hS (fun q _ h => hFc q h) hFc (fun r u t H1 locs ht hvm hw hB hz1 hk1 hS => ?_)
    have hq := hB
    obtain ⟨hP, hD⟩ := after (wr := [(p0, .inr (10, [.ref p1, .ref p2, .ref p3, .ref p4, .ref p5, .ref p6, .ref p7, .ref p8, .int 0, .int 0, .int (-1)]))]) (w1 := [(p11, .inl (cI, 860, .inl (fun _ => 0))), (p4, .inr (3, [.ref p1, .ref p2, .ref p3, .ref p9, .ref p10, .ref p11, .ref p12, .ref p13, .ref p14, .ref p15, .ref p16, .ref p17, .ref p18, .ref p19, .int 0, .int 0]))]) hP hD [2, 1] [0] rfl rfl (by decide) (by decide) hk1 hFc ht hq
    generalize H1 = H at hP hS ⊢
    have hP : va_P (dC, dI) vwCl [(p0, .inr (10, [.ref p1, .ref p2, .ref p3, .ref p4, .ref p5, .ref p6, .ref p7, .ref p8, .int 0, .int 0, .int (-1)])), (p11, .inl (cI, 860, .inl (fun _ => 0))), (p4, .inr (3, [.ref p1, .ref p2, .ref p3, .ref p9, .ref p10, .ref p11, .ref p12, .ref p13, .ref p14, .ref p15, .ref p16, .ref p17, .ref p18, .ref p19, .int 0, .int 0]))] H := hP
    have hD : va_D A [(p0, .inr (10, [.ref p1, .ref p2, .ref p3, .ref p4, .ref p5, .ref p6, .ref p7, .ref p8, .int 0, .int 0, .int (-1)])), (p11, .inl (cI, 860, .inl (fun _ => 0))), (p4, .inr (3, [.ref p1, .ref p2, .ref p3, .ref p9, .ref p10, .ref p11, .ref p12, .ref p13, .ref p14, .ref p15, .ref p16, .ref p17, .ref p18, .ref p19, .int 0, .int 0]))] := hD
    refine tp_i 0 hw ?_
    refine lv_iload_n hx hb dX10_meaning_18 rfl (lv_at hl 3 rfl) ?_
    refine lv_icmp_ne (tgt := 25) hx hb dX10_meaning_19 (by decide) (fun _ => ?_) (fun c => absurd c (by decide))
    refine lv_iinc (v := nI (i4 + 1)) (lv' := [(3, .int (nI (i4 + 1))), (2, .int 0), (0, .ref p0), (1, .int 2)]) hx hb dX10_meaning_25 hl (k := 0) rfl (nI_1 _) (by decide) rfl (fun ls hl => ?_)
    refine lv_goto (tgt := 4) hx hb dX10_meaning_28 (by decide) ?_
    exact ih4 _ _ _ ⟨hP.sub [0, 2, 1] rfl, hD.sub [0, 2, 1] (by decide) rfl, hS, lv_sub hl [0, 1, 2, 3] rfl⟩
  · intro H locs ls hI
    obtain ⟨hP, hD, hS, hl⟩ := hI
    have hl : lv_has ls 4 [(3, .int 60), (2, .int 0), (0, .ref p0), (1, .int 2)] := hl
    refine lv_iload_n hx hb dX10_meaning_4 rfl (lv_at hl 0 rfl) ?_
    refine lv_bipush (v := 60) hx hb dX10_meaning_5 (by decide) ?_
    refine lv_icmp_ge (tgt := 31) hx hb dX10_meaning_7 (by decide) (fun _ => ?_) (fun c => absurd (by decide) c)
    refine lv_iload_n hx hb dX10_meaning_31 rfl (lv_at hl 1 rfl) ?_
    have hP9 := hP.sub (ws' := [(p0, .inr (10, [.ref p1, .ref p2, .ref p3, .ref p4, .ref p5, .ref p6, .ref p7, .ref p8, .int 0, .int 0, .int (-1)])), (p4, .inr (3, [.ref p1, .ref p2, .ref p3, .ref p9, .ref p10, .ref p11, .ref p12, .ref p13, .ref p14, .ref p15, .ref p16, .ref p17, .ref p18, .ref p19, .int 0, .int 0])), (p11, .inl (cI, 860, .inl (fun _ => 0)))]) [0, 1, 2] rfl
    have hD9 := hD.sub (ws' := [(p0, .inr (10, [.ref p1, .ref p2, .ref p3, .ref p4, .ref p5, .ref p6, .ref p7, .ref p8, .int 0, .int 0, .int (-1)])), (p4, .inr (3, [.ref p1, .ref p2, .ref p3, .ref p9, .ref p10, .ref p11, .ref p12, .ref p13, .ref p14, .ref p15, .ref p16, .ref p17, .ref p18, .ref p19, .int 0, .int 0])), (p11, .inl (cI, 860, .inl (fun _ => 0)))]) [0, 1, 2] (by decide) rfl
    refine W.widen (k := 0) (n := 0) (Nat.le_of_ble_eq_true rfl) (Nat.le_of_ble_eq_true rfl) ?_
    exact W.iret (v := 0) hx hb hr (fun t ht hW9 => ⟨⟨0, (), rfl, rfl, ⟨by rw [ht]; exact hP9, va_K.moved hW9.alike hK, hD9⟩⟩, hS.F ht⟩) hS.2.2 dX10_meaning_32

set_option maxHeartbeats 4000000 in
set_option maxRecDepth 100000 in
/-- X4_houseBytes_0 -/
theorem c_X4_houseBytes_0 (l : Launch) (dC : Nat → ClassId) (dI : Nat → Nat → Nat) (cI cB : ClassId) (p0 : Nat) (p1 : Nat) (p2 : Nat) (p3 : Nat) (p4 : Nat) (p5 : Nat) (p6 : Nat) (p7 : Nat) (p8 : Nat) (p9 : Nat) (p10 : Nat) (p11 : Nat) (p12 : Nat) (p13 : Nat) (p14 : Nat) (p15 : Nat) (p16 : Nat) (p17 : Nat) (p18 : Nat) (p19 : Nat) (p20 : Nat) (sz : Nat) : Met l yX4_houseBytes (.code yX4_houseBytes cX4_houseBytes 3 (some .int) :: WA) ({ frames := 2, cells := 0, slots := 0, locals := 42 }) (va_Pc [.ref p0] (PB dC dI cI cB [(p1, .inr (3, [.ref p2, .ref p3, .ref p4, .ref p5, .ref p6, .ref p7, .ref p8, .ref p9, .ref p10, .ref p11, .ref p12, .ref p13, .ref p14, .ref p15, .int 0, .int 0])), (p7, .inl (cI, 860, .inl (fun _ => 0))), (p0, .inr (4, [.ref p2, .ref p3, .ref p4, .ref p1, .ref p16, .ref p17, .ref p18, .ref p19, .ref p20, .int 0, .int 0, .int 0, .int 0]))] sz)) (va_Qi (fun (r : Int32) (_ : Unit) => r = 0) (fun (_ : Unit) t => QB dC dI cI cB [(p1, .inr (3, [.ref p2, .ref p3, .ref p4, .ref p5, .ref p6, .ref p7, .ref p8, .ref p9, .ref p10, .ref p11, .ref p12, .ref p13, .ref p14, .ref p15, .int 0, .int 0])), (p7, .inl (cI, 860, .inl (fun _ => 0))), (p0, .inr (4, [.ref p2, .ref p3, .ref p4, .ref p1, .ref p16, .ref p17, .ref p18, .ref p19, .ref p20, .int 0, .int 0, .int 0, .int 0]))] (va_A [(p1, .inr (3, [.ref p2, .ref p3, .ref p4, .ref p5, .ref p6, .ref p7, .ref p8, .ref p9, .ref p10, .ref p11, .ref p12, .ref p13, .ref p14, .ref p15, .int 0, .int 0])), (p7, .inl (cI, 860, .inl (fun _ => 0))), (p0, .inr (4, [.ref p2, .ref p3, .ref p4, .ref p1, .ref p16, .ref p17, .ref p18, .ref p19, .ref p20, .int 0, .int 0, .int 0, .int 0]))] sz) t) (va_A [(p1, .inr (3, [.ref p2, .ref p3, .ref p4, .ref p5, .ref p6, .ref p7, .ref p8, .ref p9, .ref p10, .ref p11, .ref p12, .ref p13, .ref p14, .ref p15, .int 0, .int 0])), (p7, .inl (cI, 860, .inl (fun _ => 0))), (p0, .inr (4, [.ref p2, .ref p3, .ref p4, .ref p1, .ref p16, .ref p17, .ref p18, .ref p19, .ref p20, .int 0, .int 0, .int 0, .int 0]))] sz)) 0 0 (va_A [(p1, .inr (3, [.ref p2, .ref p3, .ref p4, .ref p5, .ref p6, .ref p7, .ref p8, .ref p9, .ref p10, .ref p11, .ref p12, .ref p13, .ref p14, .ref p15, .int 0, .int 0])), (p7, .inl (cI, 860, .inl (fun _ => 0))), (p0, .inr (4, [.ref p2, .ref p3, .ref p4, .ref p1, .ref p16, .ref p17, .ref p18, .ref p19, .ref p20, .int 0, .int 0, .int 0, .int 0]))] sz) := by
  refine Met.ofW (cc := cX4_houseBytes) (maxL := 3) (ret := (some .int)) (by decide) rfl ?_
  intro p e s m args below meth c s₁ B hml hv
  obtain ⟨rfl, hsz, hP, hK, hD0, hN⟩ := hv
  have hx := B.exec
  have hb := B.bytes
  have hr := B.returns
  have hts := atoms_spec B.pre
  have hW : ∀ w ∈ WA, w.before [.ref p0].toArray s = true := fun w h => hts w (List.mem_cons_of_mem _ h)
  have hown : s.vm.findClass RX4 = some m.cls := findClass_of_methodNamed B.named
  have hlocks := B.notSynchronized
  subst hsz
  have hD := hD0.self (sz := s.heap.size)
  generalize hAe : va_A [(p1, .inr (3, [.ref p2, .ref p3, .ref p4, .ref p5, .ref p6, .ref p7, .ref p8, .ref p9, .ref p10, .ref p11, .ref p12, .ref p13, .ref p14, .ref p15, .int 0, .int 0])), (p7, .inl (cI, 860, .inl (fun _ => 0))), (p0, .inr (4, [.ref p2, .ref p3, .ref p4, .ref p1, .ref p16, .ref p17, .ref p18, .ref p19, .ref p20, .int 0, .int 0, .int 0, .int 0]))] s.heap.size = A at hD ⊢
  have hA : ∀ q : Nat, s.heap.size ≤ q → A q := fun q h => by rw [← hAe]; exact Or.inr h
  have hS : va_S A s.heap s.heap [] := va_S.rf
  have hP : va_P (dC, dI) vwCl [(p1, .inr (3, [.ref p2, .ref p3, .ref p4, .ref p5, .ref p6, .ref p7, .ref p8, .ref p9, .ref p10, .ref p11, .ref p12, .ref p13, .ref p14, .ref p15, .int 0, .int 0])), (p7, .inl (cI, 860, .inl (fun _ => 0))), (p0, .inr (4, [.ref p2, .ref p3, .ref p4, .ref p1, .ref p16, .ref p17, .ref p18, .ref p19, .ref p20, .int 0, .int 0, .int 0, .int 0]))] s.heap := hP
  have hl := lv_entry ([.ref p0]) (n := 3) (Nat.le_of_ble_eq_true rfl)
  rw [lg_entry_eq]
  generalize (lg_sl ([.ref p0]) ++ List.replicate (3 - (lg_sl ([.ref p0])).length) Slot.unset).toArray = ls at hl ⊢
  have hl : lv_has ls 3 [(0, .ref p0)] := hl
  refine lv_iconst (v := 0) hx hb dX4_houseBytes_0 (by decide) ?_
  refine lv_istore_n (lv' := [(1, .int 0), (0, .ref p0)]) hx hb dX4_houseBytes_1 rfl hl (by decide) rfl (fun ls hl => ?_)
  refine lv_iconst (v := 0) hx hb dX4_houseBytes_2 (by decide) ?_
  refine lv_istore_n (lv' := [(2, .int 0), (1, .int 0), (0, .ref p0)]) hx hb dX4_houseBytes_3 rfl hl (by decide) rfl (fun ls hl => ?_)
  refine lp_ 60 (fun (i4 : Nat) (H : Heap) (locs : List Loc) (ls : Array Slot) => va_P (dC, dI) vwCl [(p1, .inr (3, [.ref p2, .ref p3, .ref p4, .ref p5, .ref p6, .ref p7, .ref p8, .ref p9, .ref p10, .ref p11, .ref p12, .ref p13, .ref p14, .ref p15, .int 0, .int 0])), (p7, .inl (cI, 860, .inl (fun _ => 0))), (p0, .inr (4, [.ref p2, .ref p3, .ref p4, .ref p1, .ref p16, .ref p17, .ref p18, .ref p19, .ref p20, .int 0, .int 0, .int 0, .int 0]))] H ∧ va_D A [(p1, .inr (3, [.ref p2, .ref p3, .ref p4, .ref p5, .ref p6, .ref p7, .ref p8, .ref p9, .ref p10, .ref p11, .ref p12, .ref p13, .ref p14, .ref p15, .int 0, .int 0])), (p7, .inl (cI, 860, .inl (fun _ => 0))), (p0, .inr (4, [.ref p2, .ref p3, .ref p4, .ref p1, .ref p16, .ref p17, .ref p18, .ref p19, .ref p20, .int 0, .int 0, .int 0, .int 0]))] ∧ va_S A s.heap H locs ∧ lv_has ls 3 [(2, .int (nI i4)), (1, .int 0), (0, .ref p0)]) ?_ ?_ ⟨hP, hD, hS, hl⟩
  · intro i4 hi4 ih4 H locs ls hI
    obtain ⟨hP, hD, hS, hl⟩ := hI
    refine lv_iload_n hx hb dX4_houseBytes_4 rfl (lv_at hl 0 rfl) ?_
    refine lv_bipush (v := 60) hx hb dX4_houseBytes_5 (by decide) ?_
    refine lv_icmp_ge (tgt := 36) hx hb dX4_houseBytes_7 (by decide) (fun c => absurd c (nI_ge (a := i4) (b := 60) (by omega) (by omega))) (fun _ => ?_)
    refine lv_aload_n hx hb dX4_houseBytes_10 rfl (lv_at hl 2 rfl) ?_
    refine va_get (D := (dC, dI)) (ci := 4) (v := .ref p1) (C := RX4) (T := TX4) (N := 13) hx hb hW iW_4 hown hK hP 2 rfl rfl 3 (by decide) (hW _ mw_108) (fun _ h9 => h9) rfl dX4_houseBytes_11 ?_
    refine lv_iload_n hx hb dX4_houseBytes_14 rfl (lv_at hl 0 rfl) ?_
    have hPc := hP.sub (ws' := [(p7, .inl (cI, 860, .inl (fun _ => 0))), (p1, .inr (3, [.ref p2, .ref p3, .ref p4, .ref p5, .ref p6, .ref p7, .ref p8, .ref p9, .ref p10, .ref p11, .ref p12, .ref p13, .ref p14, .ref p15, .int 0, .int 0]))]) [1, 0] rfl
    have hDc := hD.sub (ws' := [(p7, .inl (cI, 860, .inl (fun _ => 0))), (p1, .inr (3, [.ref p2, .ref p3, .ref p4, .ref p5, .ref p6, .ref p7, .ref p8, .ref p9, .ref p10, .ref p11, .ref p12, .ref p13, .ref p14, .ref p15, .int 0, .int 0]))]) [1, 0] (by decide) rfl
    have hFc := va_free (wc := [(p7, .inl (cI, 860, .inl (fun _ => 0))), (p1, .inr (3, [.ref p2, .ref p3, .ref p4, .ref p5, .ref p6, .ref p7, .ref p8, .ref p9, .ref p10, .ref p11, .ref p12, .ref p13, .ref p14, .ref p15, .int 0, .int 0]))]) hD hS hA [1, 0] rfl
    refine va_calli (va_runVN (As := [.int (nI i4)]) (rest := []) ⟨hx, hb, hml, hown, hW⟩ (c_X3_meansAt_0 l dC dI cI cB p1 (nI i4) p7 p2 p3 p4 p5 p6 p8 p9 p10 p11 p12 p13 p14 p15 H.size) ⟨va_cnB 1 hW (gW mw_252) rfl rfl rfl (hN _ mn_36) (hW _ mw_44) (by decide +kernel) ⟨Nat.le_of_ble_eq_true rfl, Nat.le_of_ble_eq_true rfl⟩, hW _ mw_253, hW _ mw_254⟩ ⟨PB_blind _, va_recv hK hP (ci := 3) (q0 := 0) rfl rfl, fun U hU hW2 => ⟨rfl, PB_at hU hW2 hPc hK hDc hN⟩⟩ rfl rfl hl.1 rfl (lv_room (Nat.le_of_ble_eq_true rfl)) dX4_houseBytes_15 ⟨Nat.le_of_ble_eq_true rfl, Nat.le_of_ble_eq_true rfl⟩) hS (fun q _ h => hFc q h) hFc (fun r u t H1 locs ht hvm hw hB hz1 hk1 hS => ?_)
    have hq := hB
    obtain ⟨hP, hD⟩ := after (wr := [(p0, .inr (4, [.ref p2, .ref p3, .ref p4, .ref p1, .ref p16, .ref p17, .ref p18, .ref p19, .ref p20, .int 0, .int 0, .int 0, .int 0]))]) (w1 := [(p7, .inl (cI, 860, .inl (fun _ => 0))), (p1, .inr (3, [.ref p2, .ref p3, .ref p4, .ref p5, .ref p6, .ref p7, .ref p8, .ref p9, .ref p10, .ref p11, .ref p12, .ref p13, .ref p14, .ref p15, .int 0, .int 0]))]) hP hD [1, 0] [2] rfl rfl (by decide) (by decide) hk1 hFc ht hq
    generalize H1 = H at hP hS ⊢
    have hP : va_P (dC, dI) vwCl [(p0, .inr (4, [.ref p2, .ref p3, .ref p4, .ref p1, .ref p16, .ref p17, .ref p18, .ref p19, .ref p20, .int 0, .int 0, .int 0, .int 0])), (p7, .inl (cI, 860, .inl (fun _ => 0))), (p1, .inr (3, [.ref p2, .ref p3, .ref p4, .ref p5, .ref p6, .ref p7, .ref p8, .ref p9, .ref p10, .ref p11, .ref p12, .ref p13, .ref p14, .ref p15, .int 0, .int 0]))] H := hP
    have hD : va_D A [(p0, .inr (4, [.ref p2, .ref p3, .ref p4, .ref p1, .ref p16, .ref p17, .ref p18, .ref p19, .ref p20, .int 0, .int 0, .int 0, .int 0])), (p7, .inl (cI, 860, .inl (fun _ => 0))), (p1, .inr (3, [.ref p2, .ref p3, .ref p4, .ref p5, .ref p6, .ref p7, .ref p8, .ref p9, .ref p10, .ref p11, .ref p12, .ref p13, .ref p14, .ref p15, .int 0, .int 0]))] := hD
    refine tp_i 0 hw ?_
    refine lv_iconst (v := 2) hx hb dX4_houseBytes_18 (by decide) ?_
    refine lv_icmp_ne (tgt := 30) hx hb dX4_houseBytes_19 (by decide) (fun _ => ?_) (fun c => absurd c (by decide))
    refine lv_iinc (v := nI (i4 + 1)) (lv' := [(2, .int (nI (i4 + 1))), (1, .int 0), (0, .ref p0)]) hx hb dX4_houseBytes_30 hl (k := 0) rfl (nI_1 _) (by decide) rfl (fun ls hl => ?_)
    refine lv_goto (tgt := 4) hx hb dX4_houseBytes_33 (by decide) ?_
    exact ih4 _ _ _ ⟨hP.sub [2, 1, 0] rfl, hD.sub [2, 1, 0] (by decide) rfl, hS, lv_sub hl [0, 1, 2] rfl⟩
  · intro H locs ls hI
    obtain ⟨hP, hD, hS, hl⟩ := hI
    have hl : lv_has ls 3 [(2, .int 60), (1, .int 0), (0, .ref p0)] := hl
    refine lv_iload_n hx hb dX4_houseBytes_4 rfl (lv_at hl 0 rfl) ?_
    refine lv_bipush (v := 60) hx hb dX4_houseBytes_5 (by decide) ?_
    refine lv_icmp_ge (tgt := 36) hx hb dX4_houseBytes_7 (by decide) (fun _ => ?_) (fun c => absurd (by decide) c)
    refine lv_iload_n hx hb dX4_houseBytes_36 rfl (lv_at hl 1 rfl) ?_
    have hP9 := hP.sub (ws' := [(p1, .inr (3, [.ref p2, .ref p3, .ref p4, .ref p5, .ref p6, .ref p7, .ref p8, .ref p9, .ref p10, .ref p11, .ref p12, .ref p13, .ref p14, .ref p15, .int 0, .int 0])), (p7, .inl (cI, 860, .inl (fun _ => 0))), (p0, .inr (4, [.ref p2, .ref p3, .ref p4, .ref p1, .ref p16, .ref p17, .ref p18, .ref p19, .ref p20, .int 0, .int 0, .int 0, .int 0]))]) [0, 1, 2] rfl
    have hD9 := hD.sub (ws' := [(p1, .inr (3, [.ref p2, .ref p3, .ref p4, .ref p5, .ref p6, .ref p7, .ref p8, .ref p9, .ref p10, .ref p11, .ref p12, .ref p13, .ref p14, .ref p15, .int 0, .int 0])), (p7, .inl (cI, 860, .inl (fun _ => 0))), (p0, .inr (4, [.ref p2, .ref p3, .ref p4, .ref p1, .ref p16, .ref p17, .ref p18, .ref p19, .ref p20, .int 0, .int 0, .int 0, .int 0]))]) [0, 1, 2] (by decide) rfl
    refine W.widen (k := 0) (n := 0) (Nat.le_of_ble_eq_true rfl) (Nat.le_of_ble_eq_true rfl) ?_
    exact W.iret (v := 0) hx hb hr (fun t ht hW9 => ⟨⟨0, (), rfl, rfl, ⟨by rw [ht]; exact hP9, va_K.moved hW9.alike hK, hD9⟩⟩, hS.F ht⟩) hS.2.2 dX4_houseBytes_37

set_option maxHeartbeats 4000000 in
set_option maxRecDepth 100000 in
/-- X10_sizes_0 -/
theorem c_X10_sizes_0 (l : Launch) (dC : Nat → ClassId) (dI : Nat → Nat → Nat) (cI cB : ClassId) (p0 : Nat) (p1 : Nat) (p2 : Nat) (p3 : Nat) (p4 : Nat) (p5 : Nat) (p6 : Nat) (p7 : Nat) (p8 : Nat) (p9 : Nat) (p10 : Nat) (p11 : Nat) (p12 : Nat) (p13 : Nat) (p14 : Nat) (p15 : Nat) (p16 : Nat) (p17 : Nat) (p18 : Nat) (p19 : Nat) (sz : Nat) : Met l yX10_sizes (.code yX10_sizes cX10_sizes 3 (some .int) :: WA) ({ frames := 2, cells := 0, slots := 0, locals := 42 }) (va_Pc [.ref p0] (PB dC dI cI cB [(p0, .inr (10, [.ref p1, .ref p2, .ref p3, .ref p4, .ref p5, .ref p6, .ref p7, .ref p8, .int 0, .int 0, .int (-1)])), (p4, .inr (3, [.ref p1, .ref p2, .ref p3, .ref p9, .ref p10, .ref p11, .ref p12, .ref p13, .ref p14, .ref p15, .ref p16, .ref p17, .ref p18, .ref p19, .int 0, .int 0])), (p11, .inl (cI, 860, .inl (fun _ => 0)))] sz)) (va_Qi (fun (r : Int32) (_ : Unit) => r = 0) (fun (_ : Unit) t => QB dC dI cI cB [(p0, .inr (10, [.ref p1, .ref p2, .ref p3, .ref p4, .ref p5, .ref p6, .ref p7, .ref p8, .int 0, .int 0, .int (-1)])), (p4, .inr (3, [.ref p1, .ref p2, .ref p3, .ref p9, .ref p10, .ref p11, .ref p12, .ref p13, .ref p14, .ref p15, .ref p16, .ref p17, .ref p18, .ref p19, .int 0, .int 0])), (p11, .inl (cI, 860, .inl (fun _ => 0)))] (va_A [(p0, .inr (10, [.ref p1, .ref p2, .ref p3, .ref p4, .ref p5, .ref p6, .ref p7, .ref p8, .int 0, .int 0, .int (-1)])), (p4, .inr (3, [.ref p1, .ref p2, .ref p3, .ref p9, .ref p10, .ref p11, .ref p12, .ref p13, .ref p14, .ref p15, .ref p16, .ref p17, .ref p18, .ref p19, .int 0, .int 0])), (p11, .inl (cI, 860, .inl (fun _ => 0)))] sz) t) (va_A [(p0, .inr (10, [.ref p1, .ref p2, .ref p3, .ref p4, .ref p5, .ref p6, .ref p7, .ref p8, .int 0, .int 0, .int (-1)])), (p4, .inr (3, [.ref p1, .ref p2, .ref p3, .ref p9, .ref p10, .ref p11, .ref p12, .ref p13, .ref p14, .ref p15, .ref p16, .ref p17, .ref p18, .ref p19, .int 0, .int 0])), (p11, .inl (cI, 860, .inl (fun _ => 0)))] sz)) 0 0 (va_A [(p0, .inr (10, [.ref p1, .ref p2, .ref p3, .ref p4, .ref p5, .ref p6, .ref p7, .ref p8, .int 0, .int 0, .int (-1)])), (p4, .inr (3, [.ref p1, .ref p2, .ref p3, .ref p9, .ref p10, .ref p11, .ref p12, .ref p13, .ref p14, .ref p15, .ref p16, .ref p17, .ref p18, .ref p19, .int 0, .int 0])), (p11, .inl (cI, 860, .inl (fun _ => 0)))] sz) := by
  refine Met.ofW (cc := cX10_sizes) (maxL := 3) (ret := (some .int)) (by decide) rfl ?_
  intro p e s m args below meth c s₁ B hml hv
  obtain ⟨rfl, hsz, hP, hK, hD0, hN⟩ := hv
  have hx := B.exec
  have hb := B.bytes
  have hr := B.returns
  have hts := atoms_spec B.pre
  have hW : ∀ w ∈ WA, w.before [.ref p0].toArray s = true := fun w h => hts w (List.mem_cons_of_mem _ h)
  have hown : s.vm.findClass RX10 = some m.cls := findClass_of_methodNamed B.named
  have hlocks := B.notSynchronized
  subst hsz
  have hD := hD0.self (sz := s.heap.size)
  generalize hAe : va_A [(p0, .inr (10, [.ref p1, .ref p2, .ref p3, .ref p4, .ref p5, .ref p6, .ref p7, .ref p8, .int 0, .int 0, .int (-1)])), (p4, .inr (3, [.ref p1, .ref p2, .ref p3, .ref p9, .ref p10, .ref p11, .ref p12, .ref p13, .ref p14, .ref p15, .ref p16, .ref p17, .ref p18, .ref p19, .int 0, .int 0])), (p11, .inl (cI, 860, .inl (fun _ => 0)))] s.heap.size = A at hD ⊢
  have hA : ∀ q : Nat, s.heap.size ≤ q → A q := fun q h => by rw [← hAe]; exact Or.inr h
  have hS : va_S A s.heap s.heap [] := va_S.rf
  have hP : va_P (dC, dI) vwCl [(p0, .inr (10, [.ref p1, .ref p2, .ref p3, .ref p4, .ref p5, .ref p6, .ref p7, .ref p8, .int 0, .int 0, .int (-1)])), (p4, .inr (3, [.ref p1, .ref p2, .ref p3, .ref p9, .ref p10, .ref p11, .ref p12, .ref p13, .ref p14, .ref p15, .ref p16, .ref p17, .ref p18, .ref p19, .int 0, .int 0])), (p11, .inl (cI, 860, .inl (fun _ => 0)))] s.heap := hP
  have hl := lv_entry ([.ref p0]) (n := 3) (Nat.le_of_ble_eq_true rfl)
  rw [lg_entry_eq]
  generalize (lg_sl ([.ref p0]) ++ List.replicate (3 - (lg_sl ([.ref p0])).length) Slot.unset).toArray = ls at hl ⊢
  have hl : lv_has ls 3 [(0, .ref p0)] := hl
  refine lv_iconst (v := 0) hx hb dX10_sizes_0 (by decide) ?_
  refine lv_istore_n (lv' := [(1, .int 0), (0, .ref p0)]) hx hb dX10_sizes_1 rfl hl (by decide) rfl (fun ls hl => ?_)
  refine lv_iconst (v := 0) hx hb dX10_sizes_2 (by decide) ?_
  refine lv_istore_n (lv' := [(2, .int 0), (1, .int 0), (0, .ref p0)]) hx hb dX10_sizes_3 rfl hl (by decide) rfl (fun ls hl => ?_)
  refine lp_ 60 (fun (i4 : Nat) (H : Heap) (locs : List Loc) (ls : Array Slot) => va_P (dC, dI) vwCl [(p0, .inr (10, [.ref p1, .ref p2, .ref p3, .ref p4, .ref p5, .ref p6, .ref p7, .ref p8, .int 0, .int 0, .int (-1)])), (p4, .inr (3, [.ref p1, .ref p2, .ref p3, .ref p9, .ref p10, .ref p11, .ref p12, .ref p13, .ref p14, .ref p15, .ref p16, .ref p17, .ref p18, .ref p19, .int 0, .int 0])), (p11, .inl (cI, 860, .inl (fun _ => 0)))] H ∧ va_D A [(p0, .inr (10, [.ref p1, .ref p2, .ref p3, .ref p4, .ref p5, .ref p6, .ref p7, .ref p8, .int 0, .int 0, .int (-1)])), (p4, .inr (3, [.ref p1, .ref p2, .ref p3, .ref p9, .ref p10, .ref p11, .ref p12, .ref p13, .ref p14, .ref p15, .ref p16, .ref p17, .ref p18, .ref p19, .int 0, .int 0])), (p11, .inl (cI, 860, .inl (fun _ => 0)))] ∧ va_S A s.heap H locs ∧ lv_has ls 3 [(2, .int (nI i4)), (1, .int 0), (0, .ref p0)]) ?_ ?_ ⟨hP, hD, hS, hl⟩
  · intro i4 hi4 ih4 H locs ls hI
    obtain ⟨hP, hD, hS, hl⟩ := hI
    refine lv_iload_n hx hb dX10_sizes_4 rfl (lv_at hl 0 rfl) ?_
    refine lv_bipush (v := 60) hx hb dX10_sizes_5 (by decide) ?_
    refine lv_icmp_ge (tgt := 49) hx hb dX10_sizes_7 (by decide) (fun c => absurd c (nI_ge (a := i4) (b := 60) (by omega) (by omega))) (fun _ => ?_)
    refine lv_aload_n hx hb dX10_sizes_10 rfl (lv_at hl 2 rfl) ?_
    refine va_get (D := (dC, dI)) (ci := 10) (v := .ref p4) (C := RX10) (T := TX10) (N := 11) hx hb hW iW_10 hown hK hP 0 rfl rfl 3 (by decide) (hW _ mw_62) (fun _ h9 => h9) rfl dX10_sizes_11 ?_
    refine lv_iload_n hx hb dX10_sizes_14 rfl (lv_at hl 0 rfl) ?_
    have hPc := hP.sub (ws' := [(p11, .inl (cI, 860, .inl (fun _ => 0))), (p4, .inr (3, [.ref p1, .ref p2, .ref p3, .ref p9, .ref p10, .ref p11, .ref p12, .ref p13, .ref p14, .ref p15, .ref p16, .ref p17, .ref p18, .ref p19, .int 0, .int 0]))]) [2, 1] rfl
    have hDc := hD.sub (ws' := [(p11, .inl (cI, 860, .inl (fun _ => 0))), (p4, .inr (3, [.ref p1, .ref p2, .ref p3, .ref p9, .ref p10, .ref p11, .ref p12, .ref p13, .ref p14, .ref p15, .ref p16, .ref p17, .ref p18, .ref p19, .int 0, .int 0]))]) [2, 1] (by decide) rfl
    have hFc := va_free (wc := [(p11, .inl (cI, 860, .inl (fun _ => 0))), (p4, .inr (3, [.ref p1, .ref p2, .ref p3, .ref p9, .ref p10, .ref p11, .ref p12, .ref p13, .ref p14, .ref p15, .ref p16, .ref p17, .ref p18, .ref p19, .int 0, .int 0]))]) hD hS hA [2, 1] rfl
    refine va_calli (va_runVN (As := [.int (nI i4)]) (rest := []) ⟨hx, hb, hml, hown, hW⟩ (c_X3_meansAt_0 l dC dI cI cB p4 (nI i4) p11 p1 p2 p3 p9 p10 p12 p13 p14 p15 p16 p17 p18 p19 H.size) ⟨va_cnB 1 hW (gW mw_252) rfl rfl rfl (hN _ mn_24) (hW _ mw_44) (by decide +kernel) ⟨Nat.le_of_ble_eq_true rfl, Nat.le_of_ble_eq_true rfl⟩, hW _ mw_253, hW _ mw_254⟩ ⟨PB_blind _, va_recv hK hP (ci := 3) (q0 := 1) rfl rfl, fun U hU hW2 => ⟨rfl, PB_at hU hW2 hPc hK hDc hN⟩⟩ rfl rfl hl.1 rfl (lv_room (Nat.le_of_ble_eq_true rfl)) dX10_sizes_15 ⟨Nat.le_of_ble_eq_true rfl, Nat.le_of_ble_eq_true rfl⟩) hS (fun q _ h => hFc q h) hFc (fun r u t H1 locs ht hvm hw hB hz1 hk1 hS => ?_)
    have hq := hB
    obtain ⟨hP, hD⟩ := after (wr := [(p0, .inr (10, [.ref p1, .ref p2, .ref p3, .ref p4, .ref p5, .ref p6, .ref p7, .ref p8, .int 0, .int 0, .int (-1)]))]) (w1 := [(p11, .inl (cI, 860, .inl (fun _ => 0))), (p4, .inr (3, [.ref p1, .ref p2, .ref p3, .ref p9, .ref p10, .ref p11, .ref p12, .ref p13, .ref p14, .ref p15, .ref p16, .ref p17, .ref p18, .ref p19, .int 0, .int 0]))]) hP hD [2, 1] [0] rfl rfl (by decide) (by decide) hk1 hFc ht hq
    generalize H1 = H at hP hS ⊢
    have hP : va_P (dC, dI) vwCl [(p0, .inr (10, [.ref p1, .ref p2, .ref p3, .ref p4, .ref p5, .ref p6, .ref p7, .ref p8, .int 0, .int 0, .int (-1)])), (p11, .inl (cI, 860, .inl (fun _ => 0))), (p4, .inr (3, [.ref p1, .ref p2, .ref p3, .ref p9, .ref p10, .ref p11, .ref p12, .ref p13, .ref p14, .ref p15, .ref p16, .ref p17, .ref p18, .ref p19, .int 0, .int 0]))] H := hP
    have hD : va_D A [(p0, .inr (10, [.ref p1, .ref p2, .ref p3, .ref p4, .ref p5, .ref p6, .ref p7, .ref p8, .int 0, .int 0, .int (-1)])), (p11, .inl (cI, 860, .inl (fun _ => 0))), (p4, .inr (3, [.ref p1, .ref p2, .ref p3, .ref p9, .ref p10, .ref p11, .ref p12, .ref p13, .ref p14, .ref p15, .ref p16, .ref p17, .ref p18, .ref p19, .int 0, .int 0]))] := hD
    refine tp_i 0 hw ?_
    refine lv_iconst (v := 1) hx hb dX10_sizes_18 (by decide) ?_
    refine lv_icmp_ne (tgt := 43) hx hb dX10_sizes_19 (by decide) (fun _ => ?_) (fun c => absurd c (by decide))
    refine lv_iinc (v := nI (i4 + 1)) (lv' := [(2, .int (nI (i4 + 1))), (1, .int 0), (0, .ref p0)]) hx hb dX10_sizes_43 hl (k := 0) rfl (nI_1 _) (by decide) rfl (fun ls hl => ?_)
    refine lv_goto (tgt := 4) hx hb dX10_sizes_46 (by decide) ?_
    exact ih4 _ _ _ ⟨hP.sub [0, 2, 1] rfl, hD.sub [0, 2, 1] (by decide) rfl, hS, lv_sub hl [0, 1, 2] rfl⟩
  · intro H locs ls hI
    obtain ⟨hP, hD, hS, hl⟩ := hI
    have hl : lv_has ls 3 [(2, .int 60), (1, .int 0), (0, .ref p0)] := hl
    refine lv_iload_n hx hb dX10_sizes_4 rfl (lv_at hl 0 rfl) ?_
    refine lv_bipush (v := 60) hx hb dX10_sizes_5 (by decide) ?_
    refine lv_icmp_ge (tgt := 49) hx hb dX10_sizes_7 (by decide) (fun _ => ?_) (fun c => absurd (by decide) c)
    refine lv_iload_n hx hb dX10_sizes_49 rfl (lv_at hl 1 rfl) ?_
    have hP9 := hP.sub (ws' := [(p0, .inr (10, [.ref p1, .ref p2, .ref p3, .ref p4, .ref p5, .ref p6, .ref p7, .ref p8, .int 0, .int 0, .int (-1)])), (p4, .inr (3, [.ref p1, .ref p2, .ref p3, .ref p9, .ref p10, .ref p11, .ref p12, .ref p13, .ref p14, .ref p15, .ref p16, .ref p17, .ref p18, .ref p19, .int 0, .int 0])), (p11, .inl (cI, 860, .inl (fun _ => 0)))]) [0, 1, 2] rfl
    have hD9 := hD.sub (ws' := [(p0, .inr (10, [.ref p1, .ref p2, .ref p3, .ref p4, .ref p5, .ref p6, .ref p7, .ref p8, .int 0, .int 0, .int (-1)])), (p4, .inr (3, [.ref p1, .ref p2, .ref p3, .ref p9, .ref p10, .ref p11, .ref p12, .ref p13, .ref p14, .ref p15, .ref p16, .ref p17, .ref p18, .ref p19, .int 0, .int 0])), (p11, .inl (cI, 860, .inl (fun _ => 0)))]) [0, 1, 2] (by decide) rfl
    refine W.widen (k := 0) (n := 0) (Nat.le_of_ble_eq_true rfl) (Nat.le_of_ble_eq_true rfl) ?_
    exact W.iret (v := 0) hx hb hr (fun t ht hW9 => ⟨⟨0, (), rfl, rfl, ⟨by rw [ht]; exact hP9, va_K.moved hW9.alike hK, hD9⟩⟩, hS.F ht⟩) hS.2.2 dX10_sizes_50

set_option maxHeartbeats 4000000 in
set_option maxRecDepth 100000 in
/-- X10_told_0 -/
theorem c_X10_told_0 (l : Launch) (dC : Nat → ClassId) (dI : Nat → Nat → Nat) (cI cB : ClassId) (p0 : Nat) (p1 : Int32) (p2 : Nat) (p3 : Nat) (p4 : Nat) (p5 : Nat) (p6 : Nat) (p7 : Nat) (p8 : Nat) (p9 : Nat) (p10 : Nat) (p11 : Nat) (p12 : Nat) (p13 : Nat) (p14 : Nat) (p15 : Nat) (p16 : Nat) (p17 : Nat) (p18 : Nat) (p19 : Nat) (p20 : Nat) (p21 : Nat) (p22 : Nat) (p23 : Nat) (p24 : Nat) (p25 : Nat) (sz : Nat) : Met l yX10_told (.code yX10_told cX10_told 2 (some .int) :: WA) ({ frames := 3, cells := 0, slots := 0, locals := 65 }) (va_Pc [.ref p0, .int p1] (PB dC dI cI cB [(p0, .inr (10, [.ref p2, .ref p3, .ref p4, .ref p5, .ref p6, .ref p7, .ref p8, .ref p9, .int 0, .int 0, .int (-1)])), (p2, .inr (7, [.int 0, .int 0, .int 0, .int 1, .int 1])), (p5, .inr (3, [.ref p2, .ref p3, .ref p4, .ref p10, .ref p11, .ref p12, .ref p13, .ref p14, .ref p15, .ref p16, .ref p17, .ref p18, .ref p19, .ref p20, .int 0, .int 0])), (p12, .inl (cI, 860, .inl (fun _ => 0))), (p7, .inr (4, [.ref p2, .ref p3, .ref p4, .ref p5, .ref p21, .ref p22, .ref p23, .ref p24, .ref p25, .int 0, .int 0, .int 0, .int 0]))] sz)) (va_Qi (fun (r : Int32) (_ : Unit) => r = toldA p1) (fun _ _ => True) (va_A [(p0, .inr (10, [.ref p2, .ref p3, .ref p4, .ref p5, .ref p6, .ref p7, .ref p8, .ref p9, .int 0, .int 0, .int (-1)])), (p2, .inr (7, [.int 0, .int 0, .int 0, .int 1, .int 1])), (p5, .inr (3, [.ref p2, .ref p3, .ref p4, .ref p10, .ref p11, .ref p12, .ref p13, .ref p14, .ref p15, .ref p16, .ref p17, .ref p18, .ref p19, .ref p20, .int 0, .int 0])), (p12, .inl (cI, 860, .inl (fun _ => 0))), (p7, .inr (4, [.ref p2, .ref p3, .ref p4, .ref p5, .ref p21, .ref p22, .ref p23, .ref p24, .ref p25, .int 0, .int 0, .int 0, .int 0]))] sz)) 0 0 (va_A [(p0, .inr (10, [.ref p2, .ref p3, .ref p4, .ref p5, .ref p6, .ref p7, .ref p8, .ref p9, .int 0, .int 0, .int (-1)])), (p2, .inr (7, [.int 0, .int 0, .int 0, .int 1, .int 1])), (p5, .inr (3, [.ref p2, .ref p3, .ref p4, .ref p10, .ref p11, .ref p12, .ref p13, .ref p14, .ref p15, .ref p16, .ref p17, .ref p18, .ref p19, .ref p20, .int 0, .int 0])), (p12, .inl (cI, 860, .inl (fun _ => 0))), (p7, .inr (4, [.ref p2, .ref p3, .ref p4, .ref p5, .ref p21, .ref p22, .ref p23, .ref p24, .ref p25, .int 0, .int 0, .int 0, .int 0]))] sz) := by
  refine Met.ofW (cc := cX10_told) (maxL := 2) (ret := (some .int)) (by decide) rfl ?_
  intro p e s m args below meth c s₁ B hml hv
  obtain ⟨rfl, hsz, hP, hK, hD0, hN⟩ := hv
  have hx := B.exec
  have hb := B.bytes
  have hr := B.returns
  have hts := atoms_spec B.pre
  have hW : ∀ w ∈ WA, w.before [.ref p0, .int p1].toArray s = true := fun w h => hts w (List.mem_cons_of_mem _ h)
  have hown : s.vm.findClass RX10 = some m.cls := findClass_of_methodNamed B.named
  have hlocks := B.notSynchronized
  subst hsz
  have hD := hD0.self (sz := s.heap.size)
  generalize hAe : va_A [(p0, .inr (10, [.ref p2, .ref p3, .ref p4, .ref p5, .ref p6, .ref p7, .ref p8, .ref p9, .int 0, .int 0, .int (-1)])), (p2, .inr (7, [.int 0, .int 0, .int 0, .int 1, .int 1])), (p5, .inr (3, [.ref p2, .ref p3, .ref p4, .ref p10, .ref p11, .ref p12, .ref p13, .ref p14, .ref p15, .ref p16, .ref p17, .ref p18, .ref p19, .ref p20, .int 0, .int 0])), (p12, .inl (cI, 860, .inl (fun _ => 0))), (p7, .inr (4, [.ref p2, .ref p3, .ref p4, .ref p5, .ref p21, .ref p22, .ref p23, .ref p24, .ref p25, .int 0, .int 0, .int 0, .int 0]))] s.heap.size = A at hD ⊢
  have hA : ∀ q : Nat, s.heap.size ≤ q → A q := fun q h => by rw [← hAe]; exact Or.inr h
  have hS : va_S A s.heap s.heap [] := va_S.rf
  have hP : va_P (dC, dI) vwCl [(p0, .inr (10, [.ref p2, .ref p3, .ref p4, .ref p5, .ref p6, .ref p7, .ref p8, .ref p9, .int 0, .int 0, .int (-1)])), (p2, .inr (7, [.int 0, .int 0, .int 0, .int 1, .int 1])), (p5, .inr (3, [.ref p2, .ref p3, .ref p4, .ref p10, .ref p11, .ref p12, .ref p13, .ref p14, .ref p15, .ref p16, .ref p17, .ref p18, .ref p19, .ref p20, .int 0, .int 0])), (p12, .inl (cI, 860, .inl (fun _ => 0))), (p7, .inr (4, [.ref p2, .ref p3, .ref p4, .ref p5, .ref p21, .ref p22, .ref p23, .ref p24, .ref p25, .int 0, .int 0, .int 0, .int 0]))] s.heap := hP
  have hl := lv_entry ([.ref p0, .int p1]) (n := 2) (Nat.le_of_ble_eq_true rfl)
  rw [lg_entry_eq]
  generalize (lg_sl ([.ref p0, .int p1]) ++ List.replicate (2 - (lg_sl ([.ref p0, .int p1])).length) Slot.unset).toArray = ls at hl ⊢
  have hl : lv_has ls 2 [(0, .ref p0), (1, .int p1)] := hl
  refine lv_iload_n hx hb dX10_told_0 rfl (lv_at hl 1 rfl) ?_
  by_cases sw1 : p1 = 0
  · refine lv_tableIn (off := 47) (tgt := 48) hx hb dX10_told_1 (by rw [sw1]; decide) (by rw [sw1]; decide) (by rw [sw1]; rfl) (by decide) ?_
    refine lv_aload_n hx hb dX10_told_48 rfl (lv_at hl 0 rfl) ?_
    refine lv_iconst (v := 1) hx hb dX10_told_49 (by decide) ?_
    have hPc := hP.sub (ws' := [(p0, .inr (10, [.ref p2, .ref p3, .ref p4, .ref p5, .ref p6, .ref p7, .ref p8, .ref p9, .int 0, .int 0, .int (-1)])), (p5, .inr (3, [.ref p2, .ref p3, .ref p4, .ref p10, .ref p11, .ref p12, .ref p13, .ref p14, .ref p15, .ref p16, .ref p17, .ref p18, .ref p19, .ref p20, .int 0, .int 0])), (p12, .inl (cI, 860, .inl (fun _ => 0)))]) [0, 2, 3] rfl
    have hDc := hD.sub (ws' := [(p0, .inr (10, [.ref p2, .ref p3, .ref p4, .ref p5, .ref p6, .ref p7, .ref p8, .ref p9, .int 0, .int 0, .int (-1)])), (p5, .inr (3, [.ref p2, .ref p3, .ref p4, .ref p10, .ref p11, .ref p12, .ref p13, .ref p14, .ref p15, .ref p16, .ref p17, .ref p18, .ref p19, .ref p20, .int 0, .int 0])), (p12, .inl (cI, 860, .inl (fun _ => 0)))]) [0, 2, 3] (by decide) rfl
    have hFc := va_free (wc := [(p0, .inr (10, [.ref p2, .ref p3, .ref p4, .ref p5, .ref p6, .ref p7, .ref p8, .ref p9, .int 0, .int 0, .int (-1)])), (p5, .inr (3, [.ref p2, .ref p3, .ref p4, .ref p10, .ref p11, .ref p12, .ref p13, .ref p14, .ref p15, .ref p16, .ref p17, .ref p18, .ref p19, .ref p20, .int 0, .int 0])), (p12, .inl (cI, 860, .inl (fun _ => 0)))]) hD hS hA [0, 2, 3] rfl
    refine va_calli (va_runV (As := [.int 1]) (rest := []) ⟨hx, hb, hml, hown, hW⟩ (c_X10_meaning_0 l dC dI cI cB p0 p2 p3 p4 p5 p6 p7 p8 p9 p10 p11 p12 p13 p14 p15 p16 p17 p18 p19 p20 s.heap.size) (cwV 1 hW (gV mw_429 mw_430 mw_431 mw_2 mw_428) rfl rfl rfl (by decide +kernel) ⟨Nat.le_of_ble_eq_true rfl, Nat.le_of_ble_eq_true rfl⟩) ⟨PB_blind _, va_recv hK hP (ci := 10) (q0 := 0) rfl rfl, fun U hU hW2 => ⟨rfl, PB_at hU hW2 hPc hK hDc hN⟩⟩ rfl rfl hl.1 rfl (lv_room (Nat.le_of_ble_eq_true rfl)) dX10_told_50 ⟨Nat.le_of_ble_eq_true rfl, Nat.le_of_ble_eq_true rfl⟩) hS (fun q _ h => hFc q h) hFc (fun r u t H1 locs ht hvm hw hB hz1 hk1 hS => ?_)
    have hq := hB
    obtain ⟨hP, hD⟩ := after (wr := [(p2, .inr (7, [.int 0, .int 0, .int 0, .int 1, .int 1])), (p7, .inr (4, [.ref p2, .ref p3, .ref p4, .ref p5, .ref p21, .ref p22, .ref p23, .ref p24, .ref p25, .int 0, .int 0, .int 0, .int 0]))]) (w1 := [(p0, .inr (10, [.ref p2, .ref p3, .ref p4, .ref p5, .ref p6, .ref p7, .ref p8, .ref p9, .int 0, .int 0, .int (-1)])), (p5, .inr (3, [.ref p2, .ref p3, .ref p4, .ref p10, .ref p11, .ref p12, .ref p13, .ref p14, .ref p15, .ref p16, .ref p17, .ref p18, .ref p19, .ref p20, .int 0, .int 0])), (p12, .inl (cI, 860, .inl (fun _ => 0)))]) hP hD [0, 2, 3] [1, 4] rfl rfl (by decide) (by decide) hk1 hFc ht hq
    generalize H1 = H at hP hS ⊢
    have hP : va_P (dC, dI) vwCl [(p2, .inr (7, [.int 0, .int 0, .int 0, .int 1, .int 1])), (p7, .inr (4, [.ref p2, .ref p3, .ref p4, .ref p5, .ref p21, .ref p22, .ref p23, .ref p24, .ref p25, .int 0, .int 0, .int 0, .int 0])), (p0, .inr (10, [.ref p2, .ref p3, .ref p4, .ref p5, .ref p6, .ref p7, .ref p8, .ref p9, .int 0, .int 0, .int (-1)])), (p5, .inr (3, [.ref p2, .ref p3, .ref p4, .ref p10, .ref p11, .ref p12, .ref p13, .ref p14, .ref p15, .ref p16, .ref p17, .ref p18, .ref p19, .ref p20, .int 0, .int 0])), (p12, .inl (cI, 860, .inl (fun _ => 0)))] H := hP
    have hD : va_D A [(p2, .inr (7, [.int 0, .int 0, .int 0, .int 1, .int 1])), (p7, .inr (4, [.ref p2, .ref p3, .ref p4, .ref p5, .ref p21, .ref p22, .ref p23, .ref p24, .ref p25, .int 0, .int 0, .int 0, .int 0])), (p0, .inr (10, [.ref p2, .ref p3, .ref p4, .ref p5, .ref p6, .ref p7, .ref p8, .ref p9, .int 0, .int 0, .int (-1)])), (p5, .inr (3, [.ref p2, .ref p3, .ref p4, .ref p10, .ref p11, .ref p12, .ref p13, .ref p14, .ref p15, .ref p16, .ref p17, .ref p18, .ref p19, .ref p20, .int 0, .int 0])), (p12, .inl (cI, 860, .inl (fun _ => 0)))] := hD
    refine tp_i 0 hw ?_
    refine lv_aload_n hx hb dX10_told_53 rfl (lv_at hl 0 rfl) ?_
    refine lv_iconst (v := 2) hx hb dX10_told_54 (by decide) ?_
    have hPc := hP.sub (ws' := [(p0, .inr (10, [.ref p2, .ref p3, .ref p4, .ref p5, .ref p6, .ref p7, .ref p8, .ref p9, .int 0, .int 0, .int (-1)])), (p5, .inr (3, [.ref p2, .ref p3, .ref p4, .ref p10, .ref p11, .ref p12, .ref p13, .ref p14, .ref p15, .ref p16, .ref p17, .ref p18, .ref p19, .ref p20, .int 0, .int 0])), (p12, .inl (cI, 860, .inl (fun _ => 0)))]) [2, 3, 4] rfl
    have hDc := hD.sub (ws' := [(p0, .inr (10, [.ref p2, .ref p3, .ref p4, .ref p5, .ref p6, .ref p7, .ref p8, .ref p9, .int 0, .int 0, .int (-1)])), (p5, .inr (3, [.ref p2, .ref p3, .ref p4, .ref p10, .ref p11, .ref p12, .ref p13, .ref p14, .ref p15, .ref p16, .ref p17, .ref p18, .ref p19, .ref p20, .int 0, .int 0])), (p12, .inl (cI, 860, .inl (fun _ => 0)))]) [2, 3, 4] (by decide) rfl
    have hFc := va_free (wc := [(p0, .inr (10, [.ref p2, .ref p3, .ref p4, .ref p5, .ref p6, .ref p7, .ref p8, .ref p9, .int 0, .int 0, .int (-1)])), (p5, .inr (3, [.ref p2, .ref p3, .ref p4, .ref p10, .ref p11, .ref p12, .ref p13, .ref p14, .ref p15, .ref p16, .ref p17, .ref p18, .ref p19, .ref p20, .int 0, .int 0])), (p12, .inl (cI, 860, .inl (fun _ => 0)))]) hD hS hA [2, 3, 4] rfl
    refine va_calli (va_runV (As := [.int 2]) (rest := [.int 0]) ⟨hx, hb, hml, hown, hW⟩ (c_X10_meaning_1 l dC dI cI cB p0 p2 p3 p4 p5 p6 p7 p8 p9 p10 p11 p12 p13 p14 p15 p16 p17 p18 p19 p20 H.size) (cwV 1 hW (gV mw_429 mw_430 mw_431 mw_2 mw_428) rfl rfl rfl (by decide +kernel) ⟨Nat.le_of_ble_eq_true rfl, Nat.le_of_ble_eq_true rfl⟩) ⟨PB_blind _, va_recv hK hP (ci := 10) (q0 := 2) rfl rfl, fun U hU hW2 => ⟨rfl, PB_at hU hW2 hPc hK hDc hN⟩⟩ rfl rfl hl.1 rfl (lv_room (Nat.le_of_ble_eq_true rfl)) dX10_told_55 ⟨Nat.le_of_ble_eq_true rfl, Nat.le_of_ble_eq_true rfl⟩) hS (fun q _ h => hFc q h) hFc (fun r u t H1 locs ht hvm hw hB hz1 hk1 hS => ?_)
    have hq := hB
    obtain ⟨hP, hD⟩ := after (wr := [(p2, .inr (7, [.int 0, .int 0, .int 0, .int 1, .int 1])), (p7, .inr (4, [.ref p2, .ref p3, .ref p4, .ref p5, .ref p21, .ref p22, .ref p23, .ref p24, .ref p25, .int 0, .int 0, .int 0, .int 0]))]) (w1 := [(p0, .inr (10, [.ref p2, .ref p3, .ref p4, .ref p5, .ref p6, .ref p7, .ref p8, .ref p9, .int 0, .int 0, .int (-1)])), (p5, .inr (3, [.ref p2, .ref p3, .ref p4, .ref p10, .ref p11, .ref p12, .ref p13, .ref p14, .ref p15, .ref p16, .ref p17, .ref p18, .ref p19, .ref p20, .int 0, .int 0])), (p12, .inl (cI, 860, .inl (fun _ => 0)))]) hP hD [2, 3, 4] [0, 1] rfl rfl (by decide) (by decide) hk1 hFc ht hq
    generalize H1 = H at hP hS ⊢
    have hP : va_P (dC, dI) vwCl [(p2, .inr (7, [.int 0, .int 0, .int 0, .int 1, .int 1])), (p7, .inr (4, [.ref p2, .ref p3, .ref p4, .ref p5, .ref p21, .ref p22, .ref p23, .ref p24, .ref p25, .int 0, .int 0, .int 0, .int 0])), (p0, .inr (10, [.ref p2, .ref p3, .ref p4, .ref p5, .ref p6, .ref p7, .ref p8, .ref p9, .int 0, .int 0, .int (-1)])), (p5, .inr (3, [.ref p2, .ref p3, .ref p4, .ref p10, .ref p11, .ref p12, .ref p13, .ref p14, .ref p15, .ref p16, .ref p17, .ref p18, .ref p19, .ref p20, .int 0, .int 0])), (p12, .inl (cI, 860, .inl (fun _ => 0)))] H := hP
    have hD : va_D A [(p2, .inr (7, [.int 0, .int 0, .int 0, .int 1, .int 1])), (p7, .inr (4, [.ref p2, .ref p3, .ref p4, .ref p5, .ref p21, .ref p22, .ref p23, .ref p24, .ref p25, .int 0, .int 0, .int 0, .int 0])), (p0, .inr (10, [.ref p2, .ref p3, .ref p4, .ref p5, .ref p6, .ref p7, .ref p8, .ref p9, .int 0, .int 0, .int (-1)])), (p5, .inr (3, [.ref p2, .ref p3, .ref p4, .ref p10, .ref p11, .ref p12, .ref p13, .ref p14, .ref p15, .ref p16, .ref p17, .ref p18, .ref p19, .ref p20, .int 0, .int 0])), (p12, .inl (cI, 860, .inl (fun _ => 0)))] := hD
    refine tp_i 0 hw ?_
    refine lv_iadd hx hb dX10_told_58 ?_
    refine tp_i 0 (by decide) ?_
    refine W.widen (k := 0) (n := 0) (Nat.le_of_ble_eq_true rfl) (Nat.le_of_ble_eq_true rfl) ?_
    exact W.iret (v := 0) hx hb hr (fun t ht hW9 => ⟨⟨0, (), rfl, (by have kc := f_eq (m := 0) rfl (by decide) sw1; have t0 : (0 : Int32).toInt = 0 := (by decide); have t1 : (1 : Int32).toInt = 1 := (by decide); have t2 : ((-1) : Int32).toInt = (-1) := (by decide); show (0 : Int32) = toldA p1; apply Int32.toInt_inj.mp; unfold toldA; (repeat' split) <;> first | rfl | omega), trivial⟩, hS.F ht⟩) hS.2.2 dX10_told_59
  by_cases sw2 : p1 = 1
  · refine lv_tableIn (off := 59) (tgt := 60) hx hb dX10_told_1 (by rw [sw2]; decide) (by rw [sw2]; decide) (by rw [sw2]; rfl) (by decide) ?_
    refine lv_aload_n hx hb dX10_told_60 rfl (lv_at hl 0 rfl) ?_
    refine lv_iconst (v := 1) hx hb dX10_told_61 (by decide) ?_
    have hPc := hP.sub (ws' := [(p0, .inr (10, [.ref p2, .ref p3, .ref p4, .ref p5, .ref p6, .ref p7, .ref p8, .ref p9, .int 0, .int 0, .int (-1)])), (p5, .inr (3, [.ref p2, .ref p3, .ref p4, .ref p10, .ref p11, .ref p12, .ref p13, .ref p14, .ref p15, .ref p16, .ref p17, .ref p18, .ref p19, .ref p20, .int 0, .int 0])), (p12, .inl (cI, 860, .inl (fun _ => 0)))]) [0, 2, 3] rfl
    have hDc := hD.sub (ws' := [(p0, .inr (10, [.ref p2, .ref p3, .ref p4, .ref p5, .ref p6, .ref p7, .ref p8, .ref p9, .int 0, .int 0, .int (-1)])), (p5, .inr (3, [.ref p2, .ref p3, .ref p4, .ref p10, .ref p11, .ref p12, .ref p13, .ref p14, .ref p15, .ref p16, .ref p17, .ref p18, .ref p19, .ref p20, .int 0, .int 0])), (p12, .inl (cI, 860, .inl (fun _ => 0)))]) [0, 2, 3] (by decide) rfl
    have hFc := va_free (wc := [(p0, .inr (10, [.ref p2, .ref p3, .ref p4, .ref p5, .ref p6, .ref p7, .ref p8, .ref p9, .int 0, .int 0, .int (-1)])), (p5, .inr (3, [.ref p2, .ref p3, .ref p4, .ref p10, .ref p11, .ref p12, .ref p13, .ref p14, .ref p15, .ref p16, .ref p17, .ref p18, .ref p19, .ref p20, .int 0, .int 0])), (p12, .inl (cI, 860, .inl (fun _ => 0)))]) hD hS hA [0, 2, 3] rfl
    refine va_calli (va_runV (As := [.int 1]) (rest := []) ⟨hx, hb, hml, hown, hW⟩ (c_X10_meaning_0 l dC dI cI cB p0 p2 p3 p4 p5 p6 p7 p8 p9 p10 p11 p12 p13 p14 p15 p16 p17 p18 p19 p20 s.heap.size) (cwV 1 hW (gV mw_429 mw_430 mw_431 mw_2 mw_428) rfl rfl rfl (by decide +kernel) ⟨Nat.le_of_ble_eq_true rfl, Nat.le_of_ble_eq_true rfl⟩) ⟨PB_blind _, va_recv hK hP (ci := 10) (q0 := 0) rfl rfl, fun U hU hW2 => ⟨rfl, PB_at hU hW2 hPc hK hDc hN⟩⟩ rfl rfl hl.1 rfl (lv_room (Nat.le_of_ble_eq_true rfl)) dX10_told_62 ⟨Nat.le_of_ble_eq_true rfl, Nat.le_of_ble_eq_true rfl⟩) hS (fun q _ h => hFc q h) hFc (fun r u t H1 locs ht hvm hw hB hz1 hk1 hS => ?_)
    have hq := hB
    obtain ⟨hP, hD⟩ := after (wr := [(p2, .inr (7, [.int 0, .int 0, .int 0, .int 1, .int 1])), (p7, .inr (4, [.ref p2, .ref p3, .ref p4, .ref p5, .ref p21, .ref p22, .ref p23, .ref p24, .ref p25, .int 0, .int 0, .int 0, .int 0]))]) (w1 := [(p0, .inr (10, [.ref p2, .ref p3, .ref p4, .ref p5, .ref p6, .ref p7, .ref p8, .ref p9, .int 0, .int 0, .int (-1)])), (p5, .inr (3, [.ref p2, .ref p3, .ref p4, .ref p10, .ref p11, .ref p12, .ref p13, .ref p14, .ref p15, .ref p16, .ref p17, .ref p18, .ref p19, .ref p20, .int 0, .int 0])), (p12, .inl (cI, 860, .inl (fun _ => 0)))]) hP hD [0, 2, 3] [1, 4] rfl rfl (by decide) (by decide) hk1 hFc ht hq
    generalize H1 = H at hP hS ⊢
    have hP : va_P (dC, dI) vwCl [(p2, .inr (7, [.int 0, .int 0, .int 0, .int 1, .int 1])), (p7, .inr (4, [.ref p2, .ref p3, .ref p4, .ref p5, .ref p21, .ref p22, .ref p23, .ref p24, .ref p25, .int 0, .int 0, .int 0, .int 0])), (p0, .inr (10, [.ref p2, .ref p3, .ref p4, .ref p5, .ref p6, .ref p7, .ref p8, .ref p9, .int 0, .int 0, .int (-1)])), (p5, .inr (3, [.ref p2, .ref p3, .ref p4, .ref p10, .ref p11, .ref p12, .ref p13, .ref p14, .ref p15, .ref p16, .ref p17, .ref p18, .ref p19, .ref p20, .int 0, .int 0])), (p12, .inl (cI, 860, .inl (fun _ => 0)))] H := hP
    have hD : va_D A [(p2, .inr (7, [.int 0, .int 0, .int 0, .int 1, .int 1])), (p7, .inr (4, [.ref p2, .ref p3, .ref p4, .ref p5, .ref p21, .ref p22, .ref p23, .ref p24, .ref p25, .int 0, .int 0, .int 0, .int 0])), (p0, .inr (10, [.ref p2, .ref p3, .ref p4, .ref p5, .ref p6, .ref p7, .ref p8, .ref p9, .int 0, .int 0, .int (-1)])), (p5, .inr (3, [.ref p2, .ref p3, .ref p4, .ref p10, .ref p11, .ref p12, .ref p13, .ref p14, .ref p15, .ref p16, .ref p17, .ref p18, .ref p19, .ref p20, .int 0, .int 0])), (p12, .inl (cI, 860, .inl (fun _ => 0)))] := hD
    refine tp_i 0 hw ?_
    refine W.widen (k := 0) (n := 0) (Nat.le_of_ble_eq_true rfl) (Nat.le_of_ble_eq_true rfl) ?_
    exact W.iret (v := 0) hx hb hr (fun t ht hW9 => ⟨⟨0, (), rfl, (by have kc := f_eq (m := 1) rfl (by decide) sw2; have t0 : (0 : Int32).toInt = 0 := (by decide); have t1 : (1 : Int32).toInt = 1 := (by decide); have t2 : ((-1) : Int32).toInt = (-1) := (by decide); show (0 : Int32) = toldA p1; apply Int32.toInt_inj.mp; unfold toldA; (repeat' split) <;> first | rfl | omega), trivial⟩, hS.F ht⟩) hS.2.2 dX10_told_65
  by_cases sw3 : p1 = 2
  · refine lv_tableIn (off := 65) (tgt := 66) hx hb dX10_told_1 (by rw [sw3]; decide) (by rw [sw3]; decide) (by rw [sw3]; rfl) (by decide) ?_
    refine lv_aload_n hx hb dX10_told_66 rfl (lv_at hl 0 rfl) ?_
    refine lv_iconst (v := 2) hx hb dX10_told_67 (by decide) ?_
    have hPc := hP.sub (ws' := [(p0, .inr (10, [.ref p2, .ref p3, .ref p4, .ref p5, .ref p6, .ref p7, .ref p8, .ref p9, .int 0, .int 0, .int (-1)])), (p5, .inr (3, [.ref p2, .ref p3, .ref p4, .ref p10, .ref p11, .ref p12, .ref p13, .ref p14, .ref p15, .ref p16, .ref p17, .ref p18, .ref p19, .ref p20, .int 0, .int 0])), (p12, .inl (cI, 860, .inl (fun _ => 0)))]) [0, 2, 3] rfl
    have hDc := hD.sub (ws' := [(p0, .inr (10, [.ref p2, .ref p3, .ref p4, .ref p5, .ref p6, .ref p7, .ref p8, .ref p9, .int 0, .int 0, .int (-1)])), (p5, .inr (3, [.ref p2, .ref p3, .ref p4, .ref p10, .ref p11, .ref p12, .ref p13, .ref p14, .ref p15, .ref p16, .ref p17, .ref p18, .ref p19, .ref p20, .int 0, .int 0])), (p12, .inl (cI, 860, .inl (fun _ => 0)))]) [0, 2, 3] (by decide) rfl
    have hFc := va_free (wc := [(p0, .inr (10, [.ref p2, .ref p3, .ref p4, .ref p5, .ref p6, .ref p7, .ref p8, .ref p9, .int 0, .int 0, .int (-1)])), (p5, .inr (3, [.ref p2, .ref p3, .ref p4, .ref p10, .ref p11, .ref p12, .ref p13, .ref p14, .ref p15, .ref p16, .ref p17, .ref p18, .ref p19, .ref p20, .int 0, .int 0])), (p12, .inl (cI, 860, .inl (fun _ => 0)))]) hD hS hA [0, 2, 3] rfl
    refine va_calli (va_runV (As := [.int 2]) (rest := []) ⟨hx, hb, hml, hown, hW⟩ (c_X10_meaning_1 l dC dI cI cB p0 p2 p3 p4 p5 p6 p7 p8 p9 p10 p11 p12 p13 p14 p15 p16 p17 p18 p19 p20 s.heap.size) (cwV 1 hW (gV mw_429 mw_430 mw_431 mw_2 mw_428) rfl rfl rfl (by decide +kernel) ⟨Nat.le_of_ble_eq_true rfl, Nat.le_of_ble_eq_true rfl⟩) ⟨PB_blind _, va_recv hK hP (ci := 10) (q0 := 0) rfl rfl, fun U hU hW2 => ⟨rfl, PB_at hU hW2 hPc hK hDc hN⟩⟩ rfl rfl hl.1 rfl (lv_room (Nat.le_of_ble_eq_true rfl)) dX10_told_68 ⟨Nat.le_of_ble_eq_true rfl, Nat.le_of_ble_eq_true rfl⟩) hS (fun q _ h => hFc q h) hFc (fun r u t H1 locs ht hvm hw hB hz1 hk1 hS => ?_)
    have hq := hB
    obtain ⟨hP, hD⟩ := after (wr := [(p2, .inr (7, [.int 0, .int 0, .int 0, .int 1, .int 1])), (p7, .inr (4, [.ref p2, .ref p3, .ref p4, .ref p5, .ref p21, .ref p22, .ref p23, .ref p24, .ref p25, .int 0, .int 0, .int 0, .int 0]))]) (w1 := [(p0, .inr (10, [.ref p2, .ref p3, .ref p4, .ref p5, .ref p6, .ref p7, .ref p8, .ref p9, .int 0, .int 0, .int (-1)])), (p5, .inr (3, [.ref p2, .ref p3, .ref p4, .ref p10, .ref p11, .ref p12, .ref p13, .ref p14, .ref p15, .ref p16, .ref p17, .ref p18, .ref p19, .ref p20, .int 0, .int 0])), (p12, .inl (cI, 860, .inl (fun _ => 0)))]) hP hD [0, 2, 3] [1, 4] rfl rfl (by decide) (by decide) hk1 hFc ht hq
    generalize H1 = H at hP hS ⊢
    have hP : va_P (dC, dI) vwCl [(p2, .inr (7, [.int 0, .int 0, .int 0, .int 1, .int 1])), (p7, .inr (4, [.ref p2, .ref p3, .ref p4, .ref p5, .ref p21, .ref p22, .ref p23, .ref p24, .ref p25, .int 0, .int 0, .int 0, .int 0])), (p0, .inr (10, [.ref p2, .ref p3, .ref p4, .ref p5, .ref p6, .ref p7, .ref p8, .ref p9, .int 0, .int 0, .int (-1)])), (p5, .inr (3, [.ref p2, .ref p3, .ref p4, .ref p10, .ref p11, .ref p12, .ref p13, .ref p14, .ref p15, .ref p16, .ref p17, .ref p18, .ref p19, .ref p20, .int 0, .int 0])), (p12, .inl (cI, 860, .inl (fun _ => 0)))] H := hP
    have hD : va_D A [(p2, .inr (7, [.int 0, .int 0, .int 0, .int 1, .int 1])), (p7, .inr (4, [.ref p2, .ref p3, .ref p4, .ref p5, .ref p21, .ref p22, .ref p23, .ref p24, .ref p25, .int 0, .int 0, .int 0, .int 0])), (p0, .inr (10, [.ref p2, .ref p3, .ref p4, .ref p5, .ref p6, .ref p7, .ref p8, .ref p9, .int 0, .int 0, .int (-1)])), (p5, .inr (3, [.ref p2, .ref p3, .ref p4, .ref p10, .ref p11, .ref p12, .ref p13, .ref p14, .ref p15, .ref p16, .ref p17, .ref p18, .ref p19, .ref p20, .int 0, .int 0])), (p12, .inl (cI, 860, .inl (fun _ => 0)))] := hD
    refine tp_i 0 hw ?_
    refine W.widen (k := 0) (n := 0) (Nat.le_of_ble_eq_true rfl) (Nat.le_of_ble_eq_true rfl) ?_
    exact W.iret (v := 0) hx hb hr (fun t ht hW9 => ⟨⟨0, (), rfl, (by have kc := f_eq (m := 2) rfl (by decide) sw3; have t0 : (0 : Int32).toInt = 0 := (by decide); have t1 : (1 : Int32).toInt = 1 := (by decide); have t2 : ((-1) : Int32).toInt = (-1) := (by decide); show (0 : Int32) = toldA p1; apply Int32.toInt_inj.mp; unfold toldA; (repeat' split) <;> first | rfl | omega), trivial⟩, hS.F ht⟩) hS.2.2 dX10_told_71
  by_cases sw4 : p1 = 3
  · refine lv_tableIn (off := 71) (tgt := 72) hx hb dX10_told_1 (by rw [sw4]; decide) (by rw [sw4]; decide) (by rw [sw4]; rfl) (by decide) ?_
    refine lv_aload_n hx hb dX10_told_72 rfl (lv_at hl 0 rfl) ?_
    refine va_get (D := (dC, dI)) (ci := 10) (v := .ref p7) (C := RX10) (T := TX10) (N := 11) hx hb hW iW_10 hown hK hP 0 rfl rfl 5 (by decide) (hW _ mw_136) (fun _ h9 => h9) rfl dX10_told_73 ?_
    have hPc := hP.sub (ws' := [(p5, .inr (3, [.ref p2, .ref p3, .ref p4, .ref p10, .ref p11, .ref p12, .ref p13, .ref p14, .ref p15, .ref p16, .ref p17, .ref p18, .ref p19, .ref p20, .int 0, .int 0])), (p12, .inl (cI, 860, .inl (fun _ => 0))), (p7, .inr (4, [.ref p2, .ref p3, .ref p4, .ref p5, .ref p21, .ref p22, .ref p23, .ref p24, .ref p25, .int 0, .int 0, .int 0, .int 0]))]) [2, 3, 4] rfl
    have hDc := hD.sub (ws' := [(p5, .inr (3, [.ref p2, .ref p3, .ref p4, .ref p10, .ref p11, .ref p12, .ref p13, .ref p14, .ref p15, .ref p16, .ref p17, .ref p18, .ref p19, .ref p20, .int 0, .int 0])), (p12, .inl (cI, 860, .inl (fun _ => 0))), (p7, .inr (4, [.ref p2, .ref p3, .ref p4, .ref p5, .ref p21, .ref p22, .ref p23, .ref p24, .ref p25, .int 0, .int 0, .int 0, .int 0]))]) [2, 3, 4] (by decide) rfl
    have hFc := va_free (wc := [(p5, .inr (3, [.ref p2, .ref p3, .ref p4, .ref p10, .ref p11, .ref p12, .ref p13, .ref p14, .ref p15, .ref p16, .ref p17, .ref p18, .ref p19, .ref p20, .int 0, .int 0])), (p12, .inl (cI, 860, .inl (fun _ => 0))), (p7, .inr (4, [.ref p2, .ref p3, .ref p4, .ref p5, .ref p21, .ref p22, .ref p23, .ref p24, .ref p25, .int 0, .int 0, .int 0, .int 0]))]) hD hS hA [2, 3, 4] rfl
    refine va_calli (va_runVN (As := []) (rest := []) ⟨hx, hb, hml, hown, hW⟩ (c_X4_houseBytes_0 l dC dI cI cB p7 p5 p2 p3 p4 p10 p11 p12 p13 p14 p15 p16 p17 p18 p19 p20 p21 p22 p23 p24 p25 s.heap.size) ⟨va_cnB 0 hW (gW mw_432) rfl rfl rfl (hN _ mn_37) (hW _ mw_102) (by decide +kernel) ⟨Nat.le_of_ble_eq_true rfl, Nat.le_of_ble_eq_true rfl⟩, hW _ mw_433, hW _ mw_434⟩ ⟨PB_blind _, va_recv hK hP (ci := 4) (q0 := 4) rfl rfl, fun U hU hW2 => ⟨rfl, PB_at hU hW2 hPc hK hDc hN⟩⟩ rfl rfl hl.1 rfl (lv_room (Nat.le_of_ble_eq_true rfl)) dX10_told_76 ⟨Nat.le_of_ble_eq_true rfl, Nat.le_of_ble_eq_true rfl⟩) hS (fun q _ h => hFc q h) hFc (fun r u t H1 locs ht hvm hw hB hz1 hk1 hS => ?_)
    have hq := hB
    obtain ⟨hP, hD⟩ := after (wr := [(p0, .inr (10, [.ref p2, .ref p3, .ref p4, .ref p5, .ref p6, .ref p7, .ref p8, .ref p9, .int 0, .int 0, .int (-1)])), (p2, .inr (7, [.int 0, .int 0, .int 0, .int 1, .int 1]))]) (w1 := [(p5, .inr (3, [.ref p2, .ref p3, .ref p4, .ref p10, .ref p11, .ref p12, .ref p13, .ref p14, .ref p15, .ref p16, .ref p17, .ref p18, .ref p19, .ref p20, .int 0, .int 0])), (p12, .inl (cI, 860, .inl (fun _ => 0))), (p7, .inr (4, [.ref p2, .ref p3, .ref p4, .ref p5, .ref p21, .ref p22, .ref p23, .ref p24, .ref p25, .int 0, .int 0, .int 0, .int 0]))]) hP hD [2, 3, 4] [0, 1] rfl rfl (by decide) (by decide) hk1 hFc ht hq
    generalize H1 = H at hP hS ⊢
    have hP : va_P (dC, dI) vwCl [(p0, .inr (10, [.ref p2, .ref p3, .ref p4, .ref p5, .ref p6, .ref p7, .ref p8, .ref p9, .int 0, .int 0, .int (-1)])), (p2, .inr (7, [.int 0, .int 0, .int 0, .int 1, .int 1])), (p5, .inr (3, [.ref p2, .ref p3, .ref p4, .ref p10, .ref p11, .ref p12, .ref p13, .ref p14, .ref p15, .ref p16, .ref p17, .ref p18, .ref p19, .ref p20, .int 0, .int 0])), (p12, .inl (cI, 860, .inl (fun _ => 0))), (p7, .inr (4, [.ref p2, .ref p3, .ref p4, .ref p5, .ref p21, .ref p22, .ref p23, .ref p24, .ref p25, .int 0, .int 0, .int 0, .int 0]))] H := hP
    have hD : va_D A [(p0, .inr (10, [.ref p2, .ref p3, .ref p4, .ref p5, .ref p6, .ref p7, .ref p8, .ref p9, .int 0, .int 0, .int (-1)])), (p2, .inr (7, [.int 0, .int 0, .int 0, .int 1, .int 1])), (p5, .inr (3, [.ref p2, .ref p3, .ref p4, .ref p10, .ref p11, .ref p12, .ref p13, .ref p14, .ref p15, .ref p16, .ref p17, .ref p18, .ref p19, .ref p20, .int 0, .int 0])), (p12, .inl (cI, 860, .inl (fun _ => 0))), (p7, .inr (4, [.ref p2, .ref p3, .ref p4, .ref p5, .ref p21, .ref p22, .ref p23, .ref p24, .ref p25, .int 0, .int 0, .int 0, .int 0]))] := hD
    refine tp_i 0 hw ?_
    refine W.widen (k := 0) (n := 0) (Nat.le_of_ble_eq_true rfl) (Nat.le_of_ble_eq_true rfl) ?_
    exact W.iret (v := 0) hx hb hr (fun t ht hW9 => ⟨⟨0, (), rfl, (by have kc := f_eq (m := 3) rfl (by decide) sw4; have t0 : (0 : Int32).toInt = 0 := (by decide); have t1 : (1 : Int32).toInt = 1 := (by decide); have t2 : ((-1) : Int32).toInt = (-1) := (by decide); show (0 : Int32) = toldA p1; apply Int32.toInt_inj.mp; unfold toldA; (repeat' split) <;> first | rfl | omega), trivial⟩, hS.F ht⟩) hS.2.2 dX10_told_79
  by_cases sw5 : p1 = 4
  · refine lv_tableIn (off := 79) (tgt := 80) hx hb dX10_told_1 (by rw [sw5]; decide) (by rw [sw5]; decide) (by rw [sw5]; rfl) (by decide) ?_
    refine lv_aload_n hx hb dX10_told_80 rfl (lv_at hl 0 rfl) ?_
    have hPc := hP.sub (ws' := [(p0, .inr (10, [.ref p2, .ref p3, .ref p4, .ref p5, .ref p6, .ref p7, .ref p8, .ref p9, .int 0, .int 0, .int (-1)])), (p5, .inr (3, [.ref p2, .ref p3, .ref p4, .ref p10, .ref p11, .ref p12, .ref p13, .ref p14, .ref p15, .ref p16, .ref p17, .ref p18, .ref p19, .ref p20, .int 0, .int 0])), (p12, .inl (cI, 860, .inl (fun _ => 0)))]) [0, 2, 3] rfl
    have hDc := hD.sub (ws' := [(p0, .inr (10, [.ref p2, .ref p3, .ref p4, .ref p5, .ref p6, .ref p7, .ref p8, .ref p9, .int 0, .int 0, .int (-1)])), (p5, .inr (3, [.ref p2, .ref p3, .ref p4, .ref p10, .ref p11, .ref p12, .ref p13, .ref p14, .ref p15, .ref p16, .ref p17, .ref p18, .ref p19, .ref p20, .int 0, .int 0])), (p12, .inl (cI, 860, .inl (fun _ => 0)))]) [0, 2, 3] (by decide) rfl
    have hFc := va_free (wc := [(p0, .inr (10, [.ref p2, .ref p3, .ref p4, .ref p5, .ref p6, .ref p7, .ref p8, .ref p9, .int 0, .int 0, .int (-1)])), (p5, .inr (3, [.ref p2, .ref p3, .ref p4, .ref p10, .ref p11, .ref p12, .ref p13, .ref p14, .ref p15, .ref p16, .ref p17, .ref p18, .ref p19, .ref p20, .int 0, .int 0])), (p12, .inl (cI, 860, .inl (fun _ => 0)))]) hD hS hA [0, 2, 3] rfl
    refine va_calli (va_runV (As := []) (rest := []) ⟨hx, hb, hml, hown, hW⟩ (c_X10_sizes_0 l dC dI cI cB p0 p2 p3 p4 p5 p6 p7 p8 p9 p10 p11 p12 p13 p14 p15 p16 p17 p18 p19 p20 s.heap.size) (cwV 0 hW (gV mw_436 mw_437 mw_438 mw_2 mw_435) rfl rfl rfl (by decide +kernel) ⟨Nat.le_of_ble_eq_true rfl, Nat.le_of_ble_eq_true rfl⟩) ⟨PB_blind _, va_recv hK hP (ci := 10) (q0 := 0) rfl rfl, fun U hU hW2 => ⟨rfl, PB_at hU hW2 hPc hK hDc hN⟩⟩ rfl rfl hl.1 rfl (lv_room (Nat.le_of_ble_eq_true rfl)) dX10_told_81 ⟨Nat.le_of_ble_eq_true rfl, Nat.le_of_ble_eq_true rfl⟩) hS (fun q _ h => hFc q h) hFc (fun r u t H1 locs ht hvm hw hB hz1 hk1 hS => ?_)
    have hq := hB
    obtain ⟨hP, hD⟩ := after (wr := [(p2, .inr (7, [.int 0, .int 0, .int 0, .int 1, .int 1])), (p7, .inr (4, [.ref p2, .ref p3, .ref p4, .ref p5, .ref p21, .ref p22, .ref p23, .ref p24, .ref p25, .int 0, .int 0, .int 0, .int 0]))]) (w1 := [(p0, .inr (10, [.ref p2, .ref p3, .ref p4, .ref p5, .ref p6, .ref p7, .ref p8, .ref p9, .int 0, .int 0, .int (-1)])), (p5, .inr (3, [.ref p2, .ref p3, .ref p4, .ref p10, .ref p11, .ref p12, .ref p13, .ref p14, .ref p15, .ref p16, .ref p17, .ref p18, .ref p19, .ref p20, .int 0, .int 0])), (p12, .inl (cI, 860, .inl (fun _ => 0)))]) hP hD [0, 2, 3] [1, 4] rfl rfl (by decide) (by decide) hk1 hFc ht hq
    generalize H1 = H at hP hS ⊢
    have hP : va_P (dC, dI) vwCl [(p2, .inr (7, [.int 0, .int 0, .int 0, .int 1, .int 1])), (p7, .inr (4, [.ref p2, .ref p3, .ref p4, .ref p5, .ref p21, .ref p22, .ref p23, .ref p24, .ref p25, .int 0, .int 0, .int 0, .int 0])), (p0, .inr (10, [.ref p2, .ref p3, .ref p4, .ref p5, .ref p6, .ref p7, .ref p8, .ref p9, .int 0, .int 0, .int (-1)])), (p5, .inr (3, [.ref p2, .ref p3, .ref p4, .ref p10, .ref p11, .ref p12, .ref p13, .ref p14, .ref p15, .ref p16, .ref p17, .ref p18, .ref p19, .ref p20, .int 0, .int 0])), (p12, .inl (cI, 860, .inl (fun _ => 0)))] H := hP
    have hD : va_D A [(p2, .inr (7, [.int 0, .int 0, .int 0, .int 1, .int 1])), (p7, .inr (4, [.ref p2, .ref p3, .ref p4, .ref p5, .ref p21, .ref p22, .ref p23, .ref p24, .ref p25, .int 0, .int 0, .int 0, .int 0])), (p0, .inr (10, [.ref p2, .ref p3, .ref p4, .ref p5, .ref p6, .ref p7, .ref p8, .ref p9, .int 0, .int 0, .int (-1)])), (p5, .inr (3, [.ref p2, .ref p3, .ref p4, .ref p10, .ref p11, .ref p12, .ref p13, .ref p14, .ref p15, .ref p16, .ref p17, .ref p18, .ref p19, .ref p20, .int 0, .int 0])), (p12, .inl (cI, 860, .inl (fun _ => 0)))] := hD
    refine tp_i 0 hw ?_
    refine W.widen (k := 0) (n := 0) (Nat.le_of_ble_eq_true rfl) (Nat.le_of_ble_eq_true rfl) ?_
    exact W.iret (v := 0) hx hb hr (fun t ht hW9 => ⟨⟨0, (), rfl, (by have kc := f_eq (m := 4) rfl (by decide) sw5; have t0 : (0 : Int32).toInt = 0 := (by decide); have t1 : (1 : Int32).toInt = 1 := (by decide); have t2 : ((-1) : Int32).toInt = (-1) := (by decide); show (0 : Int32) = toldA p1; apply Int32.toInt_inj.mp; unfold toldA; (repeat' split) <;> first | rfl | omega), trivial⟩, hS.F ht⟩) hS.2.2 dX10_told_84
  by_cases sw6 : p1 = 5
  · refine lv_tableIn (off := 84) (tgt := 85) hx hb dX10_told_1 (by rw [sw6]; decide) (by rw [sw6]; decide) (by rw [sw6]; rfl) (by decide) ?_
    refine lv_aload_n hx hb dX10_told_85 rfl (lv_at hl 0 rfl) ?_
    refine va_get (D := (dC, dI)) (ci := 10) (v := .ref p2) (C := RX10) (T := TX10) (N := 11) hx hb hW iW_10 hown hK hP 0 rfl rfl 0 (by decide) (hW _ mw_14) (fun _ h9 => h9) rfl dX10_told_86 ?_
    refine va_getN (D := (dC, dI)) (ci := 7) (v := .int 1) (C := RX7) (T := TX7) (N := 5) hx hb hW iW_7 hown hK hP 1 rfl rfl 3 (by decide) (va_Nw.use rfl (hN _ mn_38)) (fun _ h9 => h9) rfl dX10_told_89 ?_
    refine W.widen (k := 0) (n := 0) (Nat.le_of_ble_eq_true rfl) (Nat.le_of_ble_eq_true rfl) ?_
    exact W.iret (v := 1) hx hb hr (fun t ht hW9 => ⟨⟨1, (), rfl, (by have kc := f_eq (m := 5) rfl (by decide) sw6; have t0 : (0 : Int32).toInt = 0 := (by decide); have t1 : (1 : Int32).toInt = 1 := (by decide); have t2 : ((-1) : Int32).toInt = (-1) := (by decide); show (1 : Int32) = toldA p1; apply Int32.toInt_inj.mp; unfold toldA; (repeat' split) <;> first | rfl | omega), trivial⟩, hS.F ht⟩) hS.2.2 dX10_told_92
  by_cases sw7 : p1 = 6
  · refine lv_tableIn (off := 92) (tgt := 93) hx hb dX10_told_1 (by rw [sw7]; decide) (by rw [sw7]; decide) (by rw [sw7]; rfl) (by decide) ?_
    refine lv_aload_n hx hb dX10_told_93 rfl (lv_at hl 0 rfl) ?_
    refine va_get (D := (dC, dI)) (ci := 10) (v := .ref p2) (C := RX10) (T := TX10) (N := 11) hx hb hW iW_10 hown hK hP 0 rfl rfl 0 (by decide) (hW _ mw_14) (fun _ h9 => h9) rfl dX10_told_94 ?_
    refine va_getN (D := (dC, dI)) (ci := 7) (v := .int 1) (C := RX7) (T := TX7) (N := 5) hx hb hW iW_7 hown hK hP 1 rfl rfl 4 (by decide) (va_Nw.use rfl (hN _ mn_39)) (fun _ h9 => h9) rfl dX10_told_97 ?_
    refine W.widen (k := 0) (n := 0) (Nat.le_of_ble_eq_true rfl) (Nat.le_of_ble_eq_true rfl) ?_
    exact W.iret (v := 1) hx hb hr (fun t ht hW9 => ⟨⟨1, (), rfl, (by have kc := f_eq (m := 6) rfl (by decide) sw7; have t0 : (0 : Int32).toInt = 0 := (by decide); have t1 : (1 : Int32).toInt = 1 := (by decide); have t2 : ((-1) : Int32).toInt = (-1) := (by decide); show (1 : Int32) = toldA p1; apply Int32.toInt_inj.mp; unfold toldA; (repeat' split) <;> first | rfl | omega), trivial⟩, hS.F ht⟩) hS.2.2 dX10_told_100
  by_cases sw8 : p1 = 7
  · refine lv_tableIn (off := 100) (tgt := 101) hx hb dX10_told_1 (by rw [sw8]; decide) (by rw [sw8]; decide) (by rw [sw8]; rfl) (by decide) ?_
    refine lv_aload_n hx hb dX10_told_101 rfl (lv_at hl 0 rfl) ?_
    refine va_get (D := (dC, dI)) (ci := 10) (v := .int 0) (C := RX10) (T := TX10) (N := 11) hx hb hW iW_10 hown hK hP 0 rfl rfl 8 (by decide) (hW _ mw_194) (fun _ h9 => h9) rfl dX10_told_102 ?_
    refine W.widen (k := 0) (n := 0) (Nat.le_of_ble_eq_true rfl) (Nat.le_of_ble_eq_true rfl) ?_
    exact W.iret (v := 0) hx hb hr (fun t ht hW9 => ⟨⟨0, (), rfl, (by have kc := f_eq (m := 7) rfl (by decide) sw8; have t0 : (0 : Int32).toInt = 0 := (by decide); have t1 : (1 : Int32).toInt = 1 := (by decide); have t2 : ((-1) : Int32).toInt = (-1) := (by decide); show (0 : Int32) = toldA p1; apply Int32.toInt_inj.mp; unfold toldA; (repeat' split) <;> first | rfl | omega), trivial⟩, hS.F ht⟩) hS.2.2 dX10_told_105
  refine lv_tableOut (tgt := 106) hx hb dX10_told_1 (sw_out8 sw1 sw2 sw3 sw4 sw5 sw6 sw7 sw8) (by decide) ?_
  refine lv_iconst (v := (-1)) hx hb dX10_told_106 (by decide) ?_
  refine W.widen (k := 0) (n := 0) (Nat.le_of_ble_eq_true rfl) (Nat.le_of_ble_eq_true rfl) ?_
  exact W.iret (v := (-1)) hx hb hr (fun t ht hW9 => ⟨⟨(-1), (), rfl, (by have kc0 := f_ne (m := 0) rfl (by decide) sw1; have kc1 := f_ne (m := 1) rfl (by decide) sw2; have kc2 := f_ne (m := 2) rfl (by decide) sw3; have kc3 := f_ne (m := 3) rfl (by decide) sw4; have kc4 := f_ne (m := 4) rfl (by decide) sw5; have kc5 := f_ne (m := 5) rfl (by decide) sw6; have kc6 := f_ne (m := 6) rfl (by decide) sw7; have kc7 := f_ne (m := 7) rfl (by decide) sw8; have t0 : (0 : Int32).toInt = 0 := (by decide); have t1 : (1 : Int32).toInt = 1 := (by decide); have t2 : ((-1) : Int32).toInt = (-1) := (by decide); show ((-1) : Int32) = toldA p1; apply Int32.toInt_inj.mp; unfold toldA; (repeat' split) <;> first | rfl | omega), trivial⟩, hS.F ht⟩) hS.2.2 dX10_told_107

set_option maxHeartbeats 4000000 in
set_option maxRecDepth 100000 in
/-- X11_told_0 -/
theorem c_X11_told_0 (l : Launch) (dC : Nat → ClassId) (dI : Nat → Nat → Nat) (cI cB : ClassId) (p0 : Nat) (p1 : Int32) (p2 : Nat) (p3 : Nat) (p4 : Nat) (p5 : Nat) (p6 : Nat) (p7 : Nat) (p8 : Nat) (p9 : Nat) (p10 : Nat) (p11 : Nat) (p12 : Nat) (p13 : Nat) (p14 : Nat) (p15 : Nat) (p16 : Nat) (p17 : Nat) (p18 : Nat) (p19 : Nat) (p20 : Nat) (p21 : Nat) (p22 : Nat) (p23 : Nat) (p24 : Nat) (p25 : Nat) (p26 : Nat) (p27 : Nat) (p28 : Nat) (p29 : Nat) (p30 : Nat) (p31 : Nat) (p32 : Nat) (p33 : Nat) (p34 : Nat) (p35 : Nat) (p36 : Nat) (p37 : Nat) (p38 : Nat) (sz : Nat) : Met l yX11_told (.code yX11_told cX11_told 6 (some .int) :: WA) ({ frames := 0, cells := 0, slots := 0, locals := 0 }) (va_Pc [.ref p0, .int p1] (PB dC dI cI cB [(p0, .inr (11, [.int 0, .int 0, .int 0, .int 1, .long 1, .ref p2, .ref p3, .int 1, .ref p4, .int 0, .int 0, .int 1, .ref p5, .ref p6, .ref p7, .int 0, .ref p8, .int 0, .ref p9, .int 0, .int 0, .ref p10, .int 0, .ref p11, .int 0, .ref p12, .ref p13, .ref p14, .ref p15, .ref p16, .ref p17, .ref p18, .int 0, .int 0, .int 0, .int 0, .ref p19, .ref p20, .ref p21, .ref p22, .ref p23, .ref p24, .ref p25, .ref p26, .ref p27, .int 0, .int 0, .ref p28, .ref p29, .ref p30, .ref p31, .int 0, .int 0, .int 0, .int 0, .int 0, .int 0, .int 0, .int 0, .int 0, .int 0, .int 0, .int (-1), .int 0, .ref p32, .ref p33, .int 0, .ref p34, .ref p35, .ref p36, .ref p37, .int 0, .int (-1), .int 0, .int 0, .ref p38])), (p19, .inl (cI, 880, .inl (fun _ => 0)))] sz)) (va_Qi (fun (r : Int32) (_ : Unit) => r = toldA p1) (fun _ _ => True) (va_A [(p0, .inr (11, [.int 0, .int 0, .int 0, .int 1, .long 1, .ref p2, .ref p3, .int 1, .ref p4, .int 0, .int 0, .int 1, .ref p5, .ref p6, .ref p7, .int 0, .ref p8, .int 0, .ref p9, .int 0, .int 0, .ref p10, .int 0, .ref p11, .int 0, .ref p12, .ref p13, .ref p14, .ref p15, .ref p16, .ref p17, .ref p18, .int 0, .int 0, .int 0, .int 0, .ref p19, .ref p20, .ref p21, .ref p22, .ref p23, .ref p24, .ref p25, .ref p26, .ref p27, .int 0, .int 0, .ref p28, .ref p29, .ref p30, .ref p31, .int 0, .int 0, .int 0, .int 0, .int 0, .int 0, .int 0, .int 0, .int 0, .int 0, .int 0, .int (-1), .int 0, .ref p32, .ref p33, .int 0, .ref p34, .ref p35, .ref p36, .ref p37, .int 0, .int (-1), .int 0, .int 0, .ref p38])), (p19, .inl (cI, 880, .inl (fun _ => 0)))] sz)) 0 0 (va_A [(p0, .inr (11, [.int 0, .int 0, .int 0, .int 1, .long 1, .ref p2, .ref p3, .int 1, .ref p4, .int 0, .int 0, .int 1, .ref p5, .ref p6, .ref p7, .int 0, .ref p8, .int 0, .ref p9, .int 0, .int 0, .ref p10, .int 0, .ref p11, .int 0, .ref p12, .ref p13, .ref p14, .ref p15, .ref p16, .ref p17, .ref p18, .int 0, .int 0, .int 0, .int 0, .ref p19, .ref p20, .ref p21, .ref p22, .ref p23, .ref p24, .ref p25, .ref p26, .ref p27, .int 0, .int 0, .ref p28, .ref p29, .ref p30, .ref p31, .int 0, .int 0, .int 0, .int 0, .int 0, .int 0, .int 0, .int 0, .int 0, .int 0, .int 0, .int (-1), .int 0, .ref p32, .ref p33, .int 0, .ref p34, .ref p35, .ref p36, .ref p37, .int 0, .int (-1), .int 0, .int 0, .ref p38])), (p19, .inl (cI, 880, .inl (fun _ => 0)))] sz) := by
  refine Met.ofW (cc := cX11_told) (maxL := 6) (ret := (some .int)) (by decide) rfl ?_
  intro p e s m args below meth c s₁ B hml hv
  obtain ⟨rfl, hsz, hP, hK, hD0, hN⟩ := hv
  have hx := B.exec
  have hb := B.bytes
  have hr := B.returns
  have hts := atoms_spec B.pre
  have hW : ∀ w ∈ WA, w.before [.ref p0, .int p1].toArray s = true := fun w h => hts w (List.mem_cons_of_mem _ h)
  have hown : s.vm.findClass RX11 = some m.cls := findClass_of_methodNamed B.named
  have hlocks := B.notSynchronized
  subst hsz
  have hD := hD0.self (sz := s.heap.size)
  generalize hAe : va_A [(p0, .inr (11, [.int 0, .int 0, .int 0, .int 1, .long 1, .ref p2, .ref p3, .int 1, .ref p4, .int 0, .int 0, .int 1, .ref p5, .ref p6, .ref p7, .int 0, .ref p8, .int 0, .ref p9, .int 0, .int 0, .ref p10, .int 0, .ref p11, .int 0, .ref p12, .ref p13, .ref p14, .ref p15, .ref p16, .ref p17, .ref p18, .int 0, .int 0, .int 0, .int 0, .ref p19, .ref p20, .ref p21, .ref p22, .ref p23, .ref p24, .ref p25, .ref p26, .ref p27, .int 0, .int 0, .ref p28, .ref p29, .ref p30, .ref p31, .int 0, .int 0, .int 0, .int 0, .int 0, .int 0, .int 0, .int 0, .int 0, .int 0, .int 0, .int (-1), .int 0, .ref p32, .ref p33, .int 0, .ref p34, .ref p35, .ref p36, .ref p37, .int 0, .int (-1), .int 0, .int 0, .ref p38])), (p19, .inl (cI, 880, .inl (fun _ => 0)))] s.heap.size = A at hD ⊢
  have hA : ∀ q : Nat, s.heap.size ≤ q → A q := fun q h => by rw [← hAe]; exact Or.inr h
  have hS : va_S A s.heap s.heap [] := va_S.rf
  have hP : va_P (dC, dI) vwCl [(p0, .inr (11, [.int 0, .int 0, .int 0, .int 1, .long 1, .ref p2, .ref p3, .int 1, .ref p4, .int 0, .int 0, .int 1, .ref p5, .ref p6, .ref p7, .int 0, .ref p8, .int 0, .ref p9, .int 0, .int 0, .ref p10, .int 0, .ref p11, .int 0, .ref p12, .ref p13, .ref p14, .ref p15, .ref p16, .ref p17, .ref p18, .int 0, .int 0, .int 0, .int 0, .ref p19, .ref p20, .ref p21, .ref p22, .ref p23, .ref p24, .ref p25, .ref p26, .ref p27, .int 0, .int 0, .ref p28, .ref p29, .ref p30, .ref p31, .int 0, .int 0, .int 0, .int 0, .int 0, .int 0, .int 0, .int 0, .int 0, .int 0, .int 0, .int (-1), .int 0, .ref p32, .ref p33, .int 0, .ref p34, .ref p35, .ref p36, .ref p37, .int 0, .int (-1), .int 0, .int 0, .ref p38])), (p19, .inl (cI, 880, .inl (fun _ => 0)))] s.heap := hP
  have hl := lv_entry ([.ref p0, .int p1]) (n := 6) (Nat.le_of_ble_eq_true rfl)
  rw [lg_entry_eq]
  generalize (lg_sl ([.ref p0, .int p1]) ++ List.replicate (6 - (lg_sl ([.ref p0, .int p1])).length) Slot.unset).toArray = ls at hl ⊢
  have hl : lv_has ls 6 [(0, .ref p0), (1, .int p1)] := hl
  refine lv_iconst (v := 0) hx hb dX11_told_0 (by decide) ?_
  refine lv_istore_n (lv' := [(2, .int 0), (0, .ref p0), (1, .int p1)]) hx hb dX11_told_1 rfl hl (by decide) rfl (fun ls hl => ?_)
  refine lv_iconst (v := 0) hx hb dX11_told_2 (by decide) ?_
  refine lv_istore_n (lv' := [(3, .int 0), (2, .int 0), (0, .ref p0), (1, .int p1)]) hx hb dX11_told_3 rfl hl (by decide) rfl (fun ls hl => ?_)
  refine lv_iconst (v := 0) hx hb dX11_told_4 (by decide) ?_
  refine lv_istore (lv' := [(4, .int 0), (3, .int 0), (2, .int 0), (0, .ref p0), (1, .int p1)]) hx hb dX11_told_5 hl (by decide) rfl (fun ls hl => ?_)
  refine lv_iconst (v := 0) hx hb dX11_told_7 (by decide) ?_
  refine lv_istore (lv' := [(5, .int 0), (4, .int 0), (3, .int 0), (2, .int 0), (0, .ref p0), (1, .int p1)]) hx hb dX11_told_8 hl (by decide) rfl (fun ls hl => ?_)
  refine lp_ 60 (fun (i10 : Nat) (H : Heap) (locs : List Loc) (ls : Array Slot) => va_P (dC, dI) vwCl [(p0, .inr (11, [.int 0, .int 0, .int 0, .int 1, .long 1, .ref p2, .ref p3, .int 1, .ref p4, .int 0, .int 0, .int 1, .ref p5, .ref p6, .ref p7, .int 0, .ref p8, .int 0, .ref p9, .int 0, .int 0, .ref p10, .int 0, .ref p11, .int 0, .ref p12, .ref p13, .ref p14, .ref p15, .ref p16, .ref p17, .ref p18, .int 0, .int 0, .int 0, .int 0, .ref p19, .ref p20, .ref p21, .ref p22, .ref p23, .ref p24, .ref p25, .ref p26, .ref p27, .int 0, .int 0, .ref p28, .ref p29, .ref p30, .ref p31, .int 0, .int 0, .int 0, .int 0, .int 0, .int 0, .int 0, .int 0, .int 0, .int 0, .int 0, .int (-1), .int 0, .ref p32, .ref p33, .int 0, .ref p34, .ref p35, .ref p36, .ref p37, .int 0, .int (-1), .int 0, .int 0, .ref p38])), (p19, .inl (cI, 880, .inl (fun _ => 0)))] H ∧ va_D A [(p0, .inr (11, [.int 0, .int 0, .int 0, .int 1, .long 1, .ref p2, .ref p3, .int 1, .ref p4, .int 0, .int 0, .int 1, .ref p5, .ref p6, .ref p7, .int 0, .ref p8, .int 0, .ref p9, .int 0, .int 0, .ref p10, .int 0, .ref p11, .int 0, .ref p12, .ref p13, .ref p14, .ref p15, .ref p16, .ref p17, .ref p18, .int 0, .int 0, .int 0, .int 0, .ref p19, .ref p20, .ref p21, .ref p22, .ref p23, .ref p24, .ref p25, .ref p26, .ref p27, .int 0, .int 0, .ref p28, .ref p29, .ref p30, .ref p31, .int 0, .int 0, .int 0, .int 0, .int 0, .int 0, .int 0, .int 0, .int 0, .int 0, .int 0, .int (-1), .int 0, .ref p32, .ref p33, .int 0, .ref p34, .ref p35, .ref p36, .ref p37, .int 0, .int (-1), .int 0, .int 0, .ref p38])), (p19, .inl (cI, 880, .inl (fun _ => 0)))] ∧ va_S A s.heap H locs ∧ lv_has ls 6 [(5, .int (nI i10)), (4, .int 0), (3, .int 0), (2, .int 0), (0, .ref p0), (1, .int p1)]) ?_ ?_ ⟨hP, hD, hS, hl⟩
  · intro i10 hi10 ih10 H locs ls hI
    obtain ⟨hP, hD, hS, hl⟩ := hI
    refine lv_iload hx hb dX11_told_10 (lv_at hl 0 rfl) ?_
    refine lv_bipush (v := 60) hx hb dX11_told_12 (by decide) ?_
    refine lv_icmp_ge (tgt := 92) hx hb dX11_told_14 (by decide) (fun c => absurd c (nI_ge (a := i10) (b := 60) (by omega) (by omega))) (fun _ => ?_)
    refine lv_iload_n hx hb dX11_told_17 rfl (lv_at hl 3 rfl) ?_
    refine lv_aload_n hx hb dX11_told_18 rfl (lv_at hl 4 rfl) ?_
    refine va_get (D := (dC, dI)) (ci := 11) (v := .ref p19) (C := RX11) (T := TX11) (N := 76) hx hb hW iW_11 hown hK hP 0 rfl rfl 36 (by decide) (hW _ mw_169) (fun _ h9 => h9) rfl dX11_told_19 ?_
    refine lv_iload hx hb dX11_told_22 (lv_at hl 0 rfl) ?_
    refine va_iald hx hb hK hP 1 0 rfl rfl (vp_in_nI (n := i10) (by omega) (by decide)) dX11_told_24 ?_
    refine tp_i 0 rfl ?_
    refine lv_iconst (v := 1) hx hb dX11_told_25 (by decide) ?_
    refine lv_icmp_ne (tgt := 33) hx hb dX11_told_26 (by decide) (fun _ => ?_) (fun c => absurd c (by decide))
    refine lv_iconst (v := 0) hx hb dX11_told_33 (by decide) ?_
    refine lv_iadd hx hb dX11_told_34 ?_
    refine tp_i 0 (by decide) ?_
    refine lv_istore_n (lv' := [(2, .int 0), (5, .int (nI i10)), (4, .int 0), (3, .int 0), (0, .ref p0), (1, .int p1)]) hx hb dX11_told_35 rfl hl (by decide) rfl (fun ls hl => ?_)
    refine lv_iload_n hx hb dX11_told_36 rfl (lv_at hl 3 rfl) ?_
    refine lv_aload_n hx hb dX11_told_37 rfl (lv_at hl 4 rfl) ?_
    refine va_get (D := (dC, dI)) (ci := 11) (v := .ref p19) (C := RX11) (T := TX11) (N := 76) hx hb hW iW_11 hown hK hP 0 rfl rfl 36 (by decide) (hW _ mw_169) (fun _ h9 => h9) rfl dX11_told_38 ?_
    refine lv_iload hx hb dX11_told_41 (lv_at hl 1 rfl) ?_
    refine va_iald hx hb hK hP 1 0 rfl rfl (vp_in_nI (n := i10) (by omega) (by decide)) dX11_told_43 ?_
    refine tp_i 0 rfl ?_
    refine lv_iconst (v := 2) hx hb dX11_told_44 (by decide) ?_
    refine lv_icmp_ne (tgt := 52) hx hb dX11_told_45 (by decide) (fun _ => ?_) (fun c => absurd c (by decide))
    refine lv_iconst (v := 0) hx hb dX11_told_52 (by decide) ?_
    refine lv_iadd hx hb dX11_told_53 ?_
    refine tp_i 0 (by decide) ?_
    refine lv_istore_n (lv' := [(3, .int 0), (2, .int 0), (5, .int (nI i10)), (4, .int 0), (0, .ref p0), (1, .int p1)]) hx hb dX11_told_54 rfl hl (by decide) rfl (fun ls hl => ?_)
    refine lv_iload hx hb dX11_told_55 (lv_at hl 3 rfl) ?_
    refine lv_aload_n hx hb dX11_told_57 rfl (lv_at hl 4 rfl) ?_
    refine va_get (D := (dC, dI)) (ci := 11) (v := .ref p19) (C := RX11) (T := TX11) (N := 76) hx hb hW iW_11 hown hK hP 0 rfl rfl 36 (by decide) (hW _ mw_169) (fun _ h9 => h9) rfl dX11_told_58 ?_
    refine lv_iload hx hb dX11_told_61 (lv_at hl 2 rfl) ?_
    refine va_iald hx hb hK hP 1 0 rfl rfl (vp_in_nI (n := i10) (by omega) (by decide)) dX11_told_63 ?_
    refine tp_i 0 rfl ?_
    refine lv_iconst (v := 1) hx hb dX11_told_64 (by decide) ?_
    refine lv_icmp_ne (tgt := 82) hx hb dX11_told_65 (by decide) (fun _ => ?_) (fun c => absurd c (by decide))
    refine lv_iconst (v := 0) hx hb dX11_told_82 (by decide) ?_
    refine lv_iadd hx hb dX11_told_83 ?_
    refine tp_i 0 (by decide) ?_
    refine lv_istore (lv' := [(4, .int 0), (3, .int 0), (2, .int 0), (5, .int (nI i10)), (0, .ref p0), (1, .int p1)]) hx hb dX11_told_84 hl (by decide) rfl (fun ls hl => ?_)
    refine lv_iinc (v := nI (i10 + 1)) (lv' := [(5, .int (nI (i10 + 1))), (4, .int 0), (3, .int 0), (2, .int 0), (0, .ref p0), (1, .int p1)]) hx hb dX11_told_86 hl (k := 3) rfl (nI_1 _) (by decide) rfl (fun ls hl => ?_)
    refine lv_goto (tgt := 10) hx hb dX11_told_89 (by decide) ?_
    exact ih10 _ _ _ ⟨hP, hD, hS, lv_sub hl [0, 1, 2, 3, 4, 5] rfl⟩
  · intro H locs ls hI
    obtain ⟨hP, hD, hS, hl⟩ := hI
    have hl : lv_has ls 6 [(5, .int 60), (4, .int 0), (3, .int 0), (2, .int 0), (0, .ref p0), (1, .int p1)] := hl
    refine lv_iload hx hb dX11_told_10 (lv_at hl 0 rfl) ?_
    refine lv_bipush (v := 60) hx hb dX11_told_12 (by decide) ?_
    refine lv_icmp_ge (tgt := 92) hx hb dX11_told_14 (by decide) (fun _ => ?_) (fun c => absurd (by decide) c)
    refine lv_iload_n hx hb dX11_told_92 rfl (lv_at hl 5 rfl) ?_
    by_cases sw1 : p1 = 0
    · refine lv_tableIn (off := 47) (tgt := 140) hx hb dX11_told_93 (by rw [sw1]; decide) (by rw [sw1]; decide) (by rw [sw1]; rfl) (by decide) ?_
      refine lv_iload_n hx hb dX11_told_140 rfl (lv_at hl 3 rfl) ?_
      refine lv_iload_n hx hb dX11_told_141 rfl (lv_at hl 2 rfl) ?_
      refine lv_iadd hx hb dX11_told_142 ?_
      refine tp_i 0 (by decide) ?_
      refine W.widen (k := 0) (n := 0) (Nat.le_of_ble_eq_true rfl) (Nat.le_of_ble_eq_true rfl) ?_
      exact W.iret (v := 0) hx hb hr (fun t ht hW9 => ⟨⟨0, (), rfl, (by have kc := f_eq (m := 0) rfl (by decide) sw1; have t0 : (0 : Int32).toInt = 0 := (by decide); have t1 : (1 : Int32).toInt = 1 := (by decide); have t2 : ((-1) : Int32).toInt = (-1) := (by decide); show (0 : Int32) = toldA p1; apply Int32.toInt_inj.mp; unfold toldA; (repeat' split) <;> first | rfl | omega), trivial⟩, hS.F ht⟩) hS.2.2 dX11_told_143
    by_cases sw2 : p1 = 1
    · refine lv_tableIn (off := 51) (tgt := 144) hx hb dX11_told_93 (by rw [sw2]; decide) (by rw [sw2]; decide) (by rw [sw2]; rfl) (by decide) ?_
      refine lv_iload_n hx hb dX11_told_144 rfl (lv_at hl 3 rfl) ?_
      refine W.widen (k := 0) (n := 0) (Nat.le_of_ble_eq_true rfl) (Nat.le_of_ble_eq_true rfl) ?_
      exact W.iret (v := 0) hx hb hr (fun t ht hW9 => ⟨⟨0, (), rfl, (by have kc := f_eq (m := 1) rfl (by decide) sw2; have t0 : (0 : Int32).toInt = 0 := (by decide); have t1 : (1 : Int32).toInt = 1 := (by decide); have t2 : ((-1) : Int32).toInt = (-1) := (by decide); show (0 : Int32) = toldA p1; apply Int32.toInt_inj.mp; unfold toldA; (repeat' split) <;> first | rfl | omega), trivial⟩, hS.F ht⟩) hS.2.2 dX11_told_145
    by_cases sw3 : p1 = 2
    · refine lv_tableIn (off := 53) (tgt := 146) hx hb dX11_told_93 (by rw [sw3]; decide) (by rw [sw3]; decide) (by rw [sw3]; rfl) (by decide) ?_
      refine lv_iload_n hx hb dX11_told_146 rfl (lv_at hl 2 rfl) ?_
      refine W.widen (k := 0) (n := 0) (Nat.le_of_ble_eq_true rfl) (Nat.le_of_ble_eq_true rfl) ?_
      exact W.iret (v := 0) hx hb hr (fun t ht hW9 => ⟨⟨0, (), rfl, (by have kc := f_eq (m := 2) rfl (by decide) sw3; have t0 : (0 : Int32).toInt = 0 := (by decide); have t1 : (1 : Int32).toInt = 1 := (by decide); have t2 : ((-1) : Int32).toInt = (-1) := (by decide); show (0 : Int32) = toldA p1; apply Int32.toInt_inj.mp; unfold toldA; (repeat' split) <;> first | rfl | omega), trivial⟩, hS.F ht⟩) hS.2.2 dX11_told_147
    by_cases sw4 : p1 = 3
    · refine lv_tableIn (off := 55) (tgt := 148) hx hb dX11_told_93 (by rw [sw4]; decide) (by rw [sw4]; decide) (by rw [sw4]; rfl) (by decide) ?_
      refine lv_aload_n hx hb dX11_told_148 rfl (lv_at hl 4 rfl) ?_
      refine va_get (D := (dC, dI)) (ci := 11) (v := .int 0) (C := RX11) (T := TX11) (N := 76) hx hb hW iW_11 hown hK hP 0 rfl rfl 45 (by decide) (hW _ mw_443) (fun _ h9 => h9) rfl dX11_told_149 ?_
      refine W.widen (k := 0) (n := 0) (Nat.le_of_ble_eq_true rfl) (Nat.le_of_ble_eq_true rfl) ?_
      exact W.iret (v := 0) hx hb hr (fun t ht hW9 => ⟨⟨0, (), rfl, (by have kc := f_eq (m := 3) rfl (by decide) sw4; have t0 : (0 : Int32).toInt = 0 := (by decide); have t1 : (1 : Int32).toInt = 1 := (by decide); have t2 : ((-1) : Int32).toInt = (-1) := (by decide); show (0 : Int32) = toldA p1; apply Int32.toInt_inj.mp; unfold toldA; (repeat' split) <;> first | rfl | omega), trivial⟩, hS.F ht⟩) hS.2.2 dX11_told_152
    by_cases sw5 : p1 = 4
    · refine lv_tableIn (off := 60) (tgt := 153) hx hb dX11_told_93 (by rw [sw5]; decide) (by rw [sw5]; decide) (by rw [sw5]; rfl) (by decide) ?_
      refine lv_iload hx hb dX11_told_153 (lv_at hl 1 rfl) ?_
      refine W.widen (k := 0) (n := 0) (Nat.le_of_ble_eq_true rfl) (Nat.le_of_ble_eq_true rfl) ?_
      exact W.iret (v := 0) hx hb hr (fun t ht hW9 => ⟨⟨0, (), rfl, (by have kc := f_eq (m := 4) rfl (by decide) sw5; have t0 : (0 : Int32).toInt = 0 := (by decide); have t1 : (1 : Int32).toInt = 1 := (by decide); have t2 : ((-1) : Int32).toInt = (-1) := (by decide); show (0 : Int32) = toldA p1; apply Int32.toInt_inj.mp; unfold toldA; (repeat' split) <;> first | rfl | omega), trivial⟩, hS.F ht⟩) hS.2.2 dX11_told_155
    by_cases sw6 : p1 = 5
    · refine lv_tableIn (off := 63) (tgt := 156) hx hb dX11_told_93 (by rw [sw6]; decide) (by rw [sw6]; decide) (by rw [sw6]; rfl) (by decide) ?_
      refine lv_aload_n hx hb dX11_told_156 rfl (lv_at hl 4 rfl) ?_
      refine va_get (D := (dC, dI)) (ci := 11) (v := .int 1) (C := RX11) (T := TX11) (N := 76) hx hb hW iW_11 hown hK hP 0 rfl rfl 3 (by decide) (hW _ mw_144) (fun _ h9 => h9) rfl dX11_told_157 ?_
      refine W.widen (k := 0) (n := 0) (Nat.le_of_ble_eq_true rfl) (Nat.le_of_ble_eq_true rfl) ?_
      exact W.iret (v := 1) hx hb hr (fun t ht hW9 => ⟨⟨1, (), rfl, (by have kc := f_eq (m := 5) rfl (by decide) sw6; have t0 : (0 : Int32).toInt = 0 := (by decide); have t1 : (1 : Int32).toInt = 1 := (by decide); have t2 : ((-1) : Int32).toInt = (-1) := (by decide); show (1 : Int32) = toldA p1; apply Int32.toInt_inj.mp; unfold toldA; (repeat' split) <;> first | rfl | omega), trivial⟩, hS.F ht⟩) hS.2.2 dX11_told_160
    by_cases sw7 : p1 = 6
    · refine lv_tableIn (off := 68) (tgt := 161) hx hb dX11_told_93 (by rw [sw7]; decide) (by rw [sw7]; decide) (by rw [sw7]; rfl) (by decide) ?_
      refine lv_aload_n hx hb dX11_told_161 rfl (lv_at hl 4 rfl) ?_
      refine va_get (D := (dC, dI)) (ci := 11) (v := .long 1) (C := RX11) (T := TX11) (N := 76) hx hb hW iW_11 hown hK hP 0 rfl rfl 4 (by decide) (hW _ mw_145) (fun _ h9 => h9) rfl dX11_told_162 ?_
      refine lv_l2i (v := 1) hx hb dX11_told_165 (by decide) ?_
      refine W.widen (k := 0) (n := 0) (Nat.le_of_ble_eq_true rfl) (Nat.le_of_ble_eq_true rfl) ?_
      exact W.iret (v := 1) hx hb hr (fun t ht hW9 => ⟨⟨1, (), rfl, (by have kc := f_eq (m := 6) rfl (by decide) sw7; have t0 : (0 : Int32).toInt = 0 := (by decide); have t1 : (1 : Int32).toInt = 1 := (by decide); have t2 : ((-1) : Int32).toInt = (-1) := (by decide); show (1 : Int32) = toldA p1; apply Int32.toInt_inj.mp; unfold toldA; (repeat' split) <;> first | rfl | omega), trivial⟩, hS.F ht⟩) hS.2.2 dX11_told_166
    by_cases sw8 : p1 = 7
    · refine lv_tableIn (off := 74) (tgt := 167) hx hb dX11_told_93 (by rw [sw8]; decide) (by rw [sw8]; decide) (by rw [sw8]; rfl) (by decide) ?_
      refine lv_aload_n hx hb dX11_told_167 rfl (lv_at hl 4 rfl) ?_
      refine va_get (D := (dC, dI)) (ci := 11) (v := .int 0) (C := RX11) (T := TX11) (N := 76) hx hb hW iW_11 hown hK hP 0 rfl rfl 71 (by decide) (hW _ mw_203) (fun _ h9 => h9) rfl dX11_told_168 ?_
      refine W.widen (k := 0) (n := 0) (Nat.le_of_ble_eq_true rfl) (Nat.le_of_ble_eq_true rfl) ?_
      exact W.iret (v := 0) hx hb hr (fun t ht hW9 => ⟨⟨0, (), rfl, (by have kc := f_eq (m := 7) rfl (by decide) sw8; have t0 : (0 : Int32).toInt = 0 := (by decide); have t1 : (1 : Int32).toInt = 1 := (by decide); have t2 : ((-1) : Int32).toInt = (-1) := (by decide); show (0 : Int32) = toldA p1; apply Int32.toInt_inj.mp; unfold toldA; (repeat' split) <;> first | rfl | omega), trivial⟩, hS.F ht⟩) hS.2.2 dX11_told_171
    refine lv_tableOut (tgt := 172) hx hb dX11_told_93 (sw_out8 sw1 sw2 sw3 sw4 sw5 sw6 sw7 sw8) (by decide) ?_
    refine lv_iconst (v := (-1)) hx hb dX11_told_172 (by decide) ?_
    refine W.widen (k := 0) (n := 0) (Nat.le_of_ble_eq_true rfl) (Nat.le_of_ble_eq_true rfl) ?_
    exact W.iret (v := (-1)) hx hb hr (fun t ht hW9 => ⟨⟨(-1), (), rfl, (by have kc0 := f_ne (m := 0) rfl (by decide) sw1; have kc1 := f_ne (m := 1) rfl (by decide) sw2; have kc2 := f_ne (m := 2) rfl (by decide) sw3; have kc3 := f_ne (m := 3) rfl (by decide) sw4; have kc4 := f_ne (m := 4) rfl (by decide) sw5; have kc5 := f_ne (m := 5) rfl (by decide) sw6; have kc6 := f_ne (m := 6) rfl (by decide) sw7; have kc7 := f_ne (m := 7) rfl (by decide) sw8; have t0 : (0 : Int32).toInt = 0 := (by decide); have t1 : (1 : Int32).toInt = 1 := (by decide); have t2 : ((-1) : Int32).toInt = (-1) := (by decide); show ((-1) : Int32) = toldA p1; apply Int32.toInt_inj.mp; unfold toldA; (repeat' split) <;> first | rfl | omega), trivial⟩, hS.F ht⟩) hS.2.2 dX11_told_173

set_option maxHeartbeats 4000000 in
set_option maxRecDepth 100000 in
/-- X10_forget_0 -/
theorem c_X10_forget_0 (l : Launch) (dC : Nat → ClassId) (dI : Nat → Nat → Nat) (cI cB : ClassId) (p0 : Nat) (p1 : Nat) (p2 : Nat) (p3 : Nat) (p4 : Nat) (p5 : Nat) (p6 : Nat) (p7 : Nat) (p8 : Nat) (sz : Nat) : Met l yX10_forget (.code yX10_forget cX10_forget 3 (some .int) :: WA) ({ frames := 1, cells := 0, slots := 0, locals := 22 }) (va_Pc [.ref p0] (PB dC dI cI cB [(p0, .inr (10, [.ref p1, .ref p2, .ref p3, .ref p4, .ref p5, .ref p6, .ref p7, .ref p8, .int 0, .int 0, .int (-1)]))] sz)) (va_Qi (fun (r : Int32) (_ : Unit) => r = (-1)) (fun _ _ => True) (va_A [(p0, .inr (10, [.ref p1, .ref p2, .ref p3, .ref p4, .ref p5, .ref p6, .ref p7, .ref p8, .int 0, .int 0, .int (-1)]))] sz)) 0 0 (va_A [(p0, .inr (10, [.ref p1, .ref p2, .ref p3, .ref p4, .ref p5, .ref p6, .ref p7, .ref p8, .int 0, .int 0, .int (-1)]))] sz) := by
  refine Met.ofW (cc := cX10_forget) (maxL := 3) (ret := (some .int)) (by decide) rfl ?_
  intro p e s m args below meth c s₁ B hml hv
  obtain ⟨rfl, hsz, hP, hK, hD0, hN⟩ := hv
  have hx := B.exec
  have hb := B.bytes
  have hr := B.returns
  have hts := atoms_spec B.pre
  have hW : ∀ w ∈ WA, w.before [.ref p0].toArray s = true := fun w h => hts w (List.mem_cons_of_mem _ h)
  have hown : s.vm.findClass RX10 = some m.cls := findClass_of_methodNamed B.named
  have hlocks := B.notSynchronized
  subst hsz
  have hD := hD0.self (sz := s.heap.size)
  generalize hAe : va_A [(p0, .inr (10, [.ref p1, .ref p2, .ref p3, .ref p4, .ref p5, .ref p6, .ref p7, .ref p8, .int 0, .int 0, .int (-1)]))] s.heap.size = A at hD ⊢
  have hA : ∀ q : Nat, s.heap.size ≤ q → A q := fun q h => by rw [← hAe]; exact Or.inr h
  have hS : va_S A s.heap s.heap [] := va_S.rf
  have hP : va_P (dC, dI) vwCl [(p0, .inr (10, [.ref p1, .ref p2, .ref p3, .ref p4, .ref p5, .ref p6, .ref p7, .ref p8, .int 0, .int 0, .int (-1)]))] s.heap := hP
  have hl := lv_entry ([.ref p0]) (n := 3) (Nat.le_of_ble_eq_true rfl)
  rw [lg_entry_eq]
  generalize (lg_sl ([.ref p0]) ++ List.replicate (3 - (lg_sl ([.ref p0])).length) Slot.unset).toArray = ls at hl ⊢
  have hl : lv_has ls 3 [(0, .ref p0)] := hl
  refine lv_aload_n hx hb dX10_forget_0 rfl (lv_at hl 0 rfl) ?_
  have hPc := hP.sub (ws' := [(p0, .inr (10, [.ref p1, .ref p2, .ref p3, .ref p4, .ref p5, .ref p6, .ref p7, .ref p8, .int 0, .int 0, .int (-1)]))]) [0] rfl
  have hDc := hD.sub (ws' := [(p0, .inr (10, [.ref p1, .ref p2, .ref p3, .ref p4, .ref p5, .ref p6, .ref p7, .ref p8, .int 0, .int 0, .int (-1)]))]) [0] (by decide) rfl
  have hFc := va_free (wc := [(p0, .inr (10, [.ref p1, .ref p2, .ref p3, .ref p4, .ref p5, .ref p6, .ref p7, .ref p8, .int 0, .int 0, .int (-1)]))]) hD hS hA [0] rfl
  refine va_calli (va_runV (As := []) (rest := []) ⟨hx, hb, hml, hown, hW⟩ (c_X10_nameOnTape_0 l dC dI cI cB p0 p1 p2 p3 p4 p5 p6 p7 p8 s.heap.size) (cwV 0 hW (gV mw_357 mw_358 mw_359 mw_2 mw_356) rfl rfl rfl (by decide +kernel) ⟨Nat.le_of_ble_eq_true rfl, Nat.le_of_ble_eq_true rfl⟩) ⟨PB_blind _, va_recv hK hP (ci := 10) (q0 := 0) rfl rfl, fun U hU hW2 => ⟨rfl, PB_at hU hW2 hPc hK hDc hN⟩⟩ rfl rfl hl.1 rfl (lv_room (Nat.le_of_ble_eq_true rfl)) dX10_forget_1 ⟨Nat.le_of_ble_eq_true rfl, Nat.le_of_ble_eq_true rfl⟩) hS (fun q _ h => hFc q h) hFc (fun r u t H1 locs ht hvm hw hB hz1 hk1 hS => ?_)
  have hq := hB
  obtain ⟨hP, hD⟩ := after (wr := []) (w1 := [(p0, .inr (10, [.ref p1, .ref p2, .ref p3, .ref p4, .ref p5, .ref p6, .ref p7, .ref p8, .int 0, .int 0, .int (-1)]))]) hP hD [0] [] rfl rfl (by decide) (by decide) hk1 hFc ht hq
  generalize H1 = H at hP hS ⊢
  have hP : va_P (dC, dI) vwCl [(p0, .inr (10, [.ref p1, .ref p2, .ref p3, .ref p4, .ref p5, .ref p6, .ref p7, .ref p8, .int 0, .int 0, .int (-1)]))] H := hP
  have hD : va_D A [(p0, .inr (10, [.ref p1, .ref p2, .ref p3, .ref p4, .ref p5, .ref p6, .ref p7, .ref p8, .int 0, .int 0, .int (-1)]))] := hD
  refine tp_i (-1) hw ?_
  refine lv_istore_n (lv' := [(1, .int (-1)), (0, .ref p0)]) hx hb dX10_forget_4 rfl hl (by decide) rfl (fun ls hl => ?_)
  refine lv_iload_n hx hb dX10_forget_5 rfl (lv_at hl 0 rfl) ?_
  refine lv_if_ge (tgt := 11) hx hb dX10_forget_6 (by decide) (fun c => absurd c (by decide)) (fun _ => ?_)
  refine lv_iconst (v := (-1)) hx hb dX10_forget_9 (by decide) ?_
  refine W.widen (k := 0) (n := 0) (Nat.le_of_ble_eq_true rfl) (Nat.le_of_ble_eq_true rfl) ?_
  exact W.iret (v := (-1)) hx hb hr (fun t ht hW9 => ⟨⟨(-1), (), rfl, rfl, trivial⟩, hS.F ht⟩) hS.2.2 dX10_forget_10

set_option maxHeartbeats 4000000 in
set_option maxRecDepth 100000 in
/-- X11_forget_0 -/
theorem c_X11_forget_0 (l : Launch) (dC : Nat → ClassId) (dI : Nat → Nat → Nat) (cI cB : ClassId) (p0 : Nat) (p1 : Nat) (p2 : Nat) (p3 : Nat) (p4 : Nat) (p5 : Nat) (p6 : Nat) (p7 : Nat) (p8 : Nat) (p9 : Nat) (p10 : Nat) (p11 : Nat) (p12 : Nat) (p13 : Nat) (p14 : Nat) (p15 : Nat) (p16 : Nat) (p17 : Nat) (p18 : Nat) (p19 : Nat) (p20 : Nat) (p21 : Nat) (p22 : Nat) (p23 : Nat) (p24 : Nat) (p25 : Nat) (p26 : Nat) (p27 : Nat) (p28 : Nat) (p29 : Nat) (p30 : Nat) (p31 : Nat) (p32 : Nat) (p33 : Nat) (p34 : Nat) (p35 : Nat) (p36 : Nat) (p37 : Nat) (sz : Nat) : Met l yX11_forget (.code yX11_forget cX11_forget 3 (some .int) :: WA) ({ frames := 1, cells := 0, slots := 0, locals := 23 }) (va_Pc [.ref p0] (PB dC dI cI cB [(p0, .inr (11, [.int 0, .int 0, .int 0, .int 1, .long 1, .ref p1, .ref p2, .int 1, .ref p3, .int 0, .int 0, .int 1, .ref p4, .ref p5, .ref p6, .int 0, .ref p7, .int 0, .ref p8, .int 0, .int 0, .ref p9, .int 0, .ref p10, .int 0, .ref p11, .ref p12, .ref p13, .ref p14, .ref p15, .ref p16, .ref p17, .int 0, .int 0, .int 0, .int 0, .ref p18, .ref p19, .ref p20, .ref p21, .ref p22, .ref p23, .ref p24, .ref p25, .ref p26, .int 0, .int 0, .ref p27, .ref p28, .ref p29, .ref p30, .int 0, .int 0, .int 0, .int 0, .int 0, .int 0, .int 0, .int 0, .int 0, .int 0, .int 0, .int (-1), .int 0, .ref p31, .ref p32, .int 0, .ref p33, .ref p34, .ref p35, .ref p36, .int 0, .int (-1), .int 0, .int 0, .ref p37]))] sz)) (va_Qi (fun (r : Int32) (_ : Unit) => r = (-1)) (fun _ _ => True) (va_A [(p0, .inr (11, [.int 0, .int 0, .int 0, .int 1, .long 1, .ref p1, .ref p2, .int 1, .ref p3, .int 0, .int 0, .int 1, .ref p4, .ref p5, .ref p6, .int 0, .ref p7, .int 0, .ref p8, .int 0, .int 0, .ref p9, .int 0, .ref p10, .int 0, .ref p11, .ref p12, .ref p13, .ref p14, .ref p15, .ref p16, .ref p17, .int 0, .int 0, .int 0, .int 0, .ref p18, .ref p19, .ref p20, .ref p21, .ref p22, .ref p23, .ref p24, .ref p25, .ref p26, .int 0, .int 0, .ref p27, .ref p28, .ref p29, .ref p30, .int 0, .int 0, .int 0, .int 0, .int 0, .int 0, .int 0, .int 0, .int 0, .int 0, .int 0, .int (-1), .int 0, .ref p31, .ref p32, .int 0, .ref p33, .ref p34, .ref p35, .ref p36, .int 0, .int (-1), .int 0, .int 0, .ref p37]))] sz)) 0 0 (va_A [(p0, .inr (11, [.int 0, .int 0, .int 0, .int 1, .long 1, .ref p1, .ref p2, .int 1, .ref p3, .int 0, .int 0, .int 1, .ref p4, .ref p5, .ref p6, .int 0, .ref p7, .int 0, .ref p8, .int 0, .int 0, .ref p9, .int 0, .ref p10, .int 0, .ref p11, .ref p12, .ref p13, .ref p14, .ref p15, .ref p16, .ref p17, .int 0, .int 0, .int 0, .int 0, .ref p18, .ref p19, .ref p20, .ref p21, .ref p22, .ref p23, .ref p24, .ref p25, .ref p26, .int 0, .int 0, .ref p27, .ref p28, .ref p29, .ref p30, .int 0, .int 0, .int 0, .int 0, .int 0, .int 0, .int 0, .int 0, .int 0, .int 0, .int 0, .int (-1), .int 0, .ref p31, .ref p32, .int 0, .ref p33, .ref p34, .ref p35, .ref p36, .int 0, .int (-1), .int 0, .int 0, .ref p37]))] sz) := by
  refine Met.ofW (cc := cX11_forget) (maxL := 3) (ret := (some .int)) (by decide) rfl ?_
  intro p e s m args below meth c s₁ B hml hv
  obtain ⟨rfl, hsz, hP, hK, hD0, hN⟩ := hv
  have hx := B.exec
  have hb := B.bytes
  have hr := B.returns
  have hts := atoms_spec B.pre
  have hW : ∀ w ∈ WA, w.before [.ref p0].toArray s = true := fun w h => hts w (List.mem_cons_of_mem _ h)
  have hown : s.vm.findClass RX11 = some m.cls := findClass_of_methodNamed B.named
  have hlocks := B.notSynchronized
  subst hsz
  have hD := hD0.self (sz := s.heap.size)
  generalize hAe : va_A [(p0, .inr (11, [.int 0, .int 0, .int 0, .int 1, .long 1, .ref p1, .ref p2, .int 1, .ref p3, .int 0, .int 0, .int 1, .ref p4, .ref p5, .ref p6, .int 0, .ref p7, .int 0, .ref p8, .int 0, .int 0, .ref p9, .int 0, .ref p10, .int 0, .ref p11, .ref p12, .ref p13, .ref p14, .ref p15, .ref p16, .ref p17, .int 0, .int 0, .int 0, .int 0, .ref p18, .ref p19, .ref p20, .ref p21, .ref p22, .ref p23, .ref p24, .ref p25, .ref p26, .int 0, .int 0, .ref p27, .ref p28, .ref p29, .ref p30, .int 0, .int 0, .int 0, .int 0, .int 0, .int 0, .int 0, .int 0, .int 0, .int 0, .int 0, .int (-1), .int 0, .ref p31, .ref p32, .int 0, .ref p33, .ref p34, .ref p35, .ref p36, .int 0, .int (-1), .int 0, .int 0, .ref p37]))] s.heap.size = A at hD ⊢
  have hA : ∀ q : Nat, s.heap.size ≤ q → A q := fun q h => by rw [← hAe]; exact Or.inr h
  have hS : va_S A s.heap s.heap [] := va_S.rf
  have hP : va_P (dC, dI) vwCl [(p0, .inr (11, [.int 0, .int 0, .int 0, .int 1, .long 1, .ref p1, .ref p2, .int 1, .ref p3, .int 0, .int 0, .int 1, .ref p4, .ref p5, .ref p6, .int 0, .ref p7, .int 0, .ref p8, .int 0, .int 0, .ref p9, .int 0, .ref p10, .int 0, .ref p11, .ref p12, .ref p13, .ref p14, .ref p15, .ref p16, .ref p17, .int 0, .int 0, .int 0, .int 0, .ref p18, .ref p19, .ref p20, .ref p21, .ref p22, .ref p23, .ref p24, .ref p25, .ref p26, .int 0, .int 0, .ref p27, .ref p28, .ref p29, .ref p30, .int 0, .int 0, .int 0, .int 0, .int 0, .int 0, .int 0, .int 0, .int 0, .int 0, .int 0, .int (-1), .int 0, .ref p31, .ref p32, .int 0, .ref p33, .ref p34, .ref p35, .ref p36, .int 0, .int (-1), .int 0, .int 0, .ref p37]))] s.heap := hP
  have hl := lv_entry ([.ref p0]) (n := 3) (Nat.le_of_ble_eq_true rfl)
  rw [lg_entry_eq]
  generalize (lg_sl ([.ref p0]) ++ List.replicate (3 - (lg_sl ([.ref p0])).length) Slot.unset).toArray = ls at hl ⊢
  have hl : lv_has ls 3 [(0, .ref p0)] := hl
  refine lv_aload_n hx hb dX11_forget_0 rfl (lv_at hl 0 rfl) ?_
  have hPc := hP.sub (ws' := [(p0, .inr (11, [.int 0, .int 0, .int 0, .int 1, .long 1, .ref p1, .ref p2, .int 1, .ref p3, .int 0, .int 0, .int 1, .ref p4, .ref p5, .ref p6, .int 0, .ref p7, .int 0, .ref p8, .int 0, .int 0, .ref p9, .int 0, .ref p10, .int 0, .ref p11, .ref p12, .ref p13, .ref p14, .ref p15, .ref p16, .ref p17, .int 0, .int 0, .int 0, .int 0, .ref p18, .ref p19, .ref p20, .ref p21, .ref p22, .ref p23, .ref p24, .ref p25, .ref p26, .int 0, .int 0, .ref p27, .ref p28, .ref p29, .ref p30, .int 0, .int 0, .int 0, .int 0, .int 0, .int 0, .int 0, .int 0, .int 0, .int 0, .int 0, .int (-1), .int 0, .ref p31, .ref p32, .int 0, .ref p33, .ref p34, .ref p35, .ref p36, .int 0, .int (-1), .int 0, .int 0, .ref p37]))]) [0] rfl
  have hDc := hD.sub (ws' := [(p0, .inr (11, [.int 0, .int 0, .int 0, .int 1, .long 1, .ref p1, .ref p2, .int 1, .ref p3, .int 0, .int 0, .int 1, .ref p4, .ref p5, .ref p6, .int 0, .ref p7, .int 0, .ref p8, .int 0, .int 0, .ref p9, .int 0, .ref p10, .int 0, .ref p11, .ref p12, .ref p13, .ref p14, .ref p15, .ref p16, .ref p17, .int 0, .int 0, .int 0, .int 0, .ref p18, .ref p19, .ref p20, .ref p21, .ref p22, .ref p23, .ref p24, .ref p25, .ref p26, .int 0, .int 0, .ref p27, .ref p28, .ref p29, .ref p30, .int 0, .int 0, .int 0, .int 0, .int 0, .int 0, .int 0, .int 0, .int 0, .int 0, .int 0, .int (-1), .int 0, .ref p31, .ref p32, .int 0, .ref p33, .ref p34, .ref p35, .ref p36, .int 0, .int (-1), .int 0, .int 0, .ref p37]))]) [0] (by decide) rfl
  have hFc := va_free (wc := [(p0, .inr (11, [.int 0, .int 0, .int 0, .int 1, .long 1, .ref p1, .ref p2, .int 1, .ref p3, .int 0, .int 0, .int 1, .ref p4, .ref p5, .ref p6, .int 0, .ref p7, .int 0, .ref p8, .int 0, .int 0, .ref p9, .int 0, .ref p10, .int 0, .ref p11, .ref p12, .ref p13, .ref p14, .ref p15, .ref p16, .ref p17, .int 0, .int 0, .int 0, .int 0, .ref p18, .ref p19, .ref p20, .ref p21, .ref p22, .ref p23, .ref p24, .ref p25, .ref p26, .int 0, .int 0, .ref p27, .ref p28, .ref p29, .ref p30, .int 0, .int 0, .int 0, .int 0, .int 0, .int 0, .int 0, .int 0, .int 0, .int 0, .int 0, .int (-1), .int 0, .ref p31, .ref p32, .int 0, .ref p33, .ref p34, .ref p35, .ref p36, .int 0, .int (-1), .int 0, .int 0, .ref p37]))]) hD hS hA [0] rfl
  refine va_calli (va_runV (As := []) (rest := []) ⟨hx, hb, hml, hown, hW⟩ (c_X11_taken__0 l dC dI cI cB p0 p1 p2 p3 p4 p5 p6 p7 p8 p9 p10 p11 p12 p13 p14 p15 p16 p17 p18 p19 p20 p21 p22 p23 p24 p25 p26 p27 p28 p29 p30 p31 p32 p33 p34 p35 p36 p37 s.heap.size) (cwV 0 hW (gV mw_365 mw_366 mw_367 mw_142 mw_364) rfl rfl rfl (by decide +kernel) ⟨Nat.le_of_ble_eq_true rfl, Nat.le_of_ble_eq_true rfl⟩) ⟨PB_blind _, va_recv hK hP (ci := 11) (q0 := 0) rfl rfl, fun U hU hW2 => ⟨rfl, PB_at hU hW2 hPc hK hDc hN⟩⟩ rfl rfl hl.1 rfl (lv_room (Nat.le_of_ble_eq_true rfl)) dX11_forget_1 ⟨Nat.le_of_ble_eq_true rfl, Nat.le_of_ble_eq_true rfl⟩) hS (fun q _ h => hFc q h) hFc (fun r u t H1 locs ht hvm hw hB hz1 hk1 hS => ?_)
  have hq := hB
  obtain ⟨hP, hD⟩ := after (wr := []) (w1 := [(p0, .inr (11, [.int 0, .int 0, .int 0, .int 1, .long 1, .ref p1, .ref p2, .int 1, .ref p3, .int 0, .int 0, .int 1, .ref p4, .ref p5, .ref p6, .int 0, .ref p7, .int 0, .ref p8, .int 0, .int 0, .ref p9, .int 0, .ref p10, .int 0, .ref p11, .ref p12, .ref p13, .ref p14, .ref p15, .ref p16, .ref p17, .int 0, .int 0, .int 0, .int 0, .ref p18, .ref p19, .ref p20, .ref p21, .ref p22, .ref p23, .ref p24, .ref p25, .ref p26, .int 0, .int 0, .ref p27, .ref p28, .ref p29, .ref p30, .int 0, .int 0, .int 0, .int 0, .int 0, .int 0, .int 0, .int 0, .int 0, .int 0, .int 0, .int (-1), .int 0, .ref p31, .ref p32, .int 0, .ref p33, .ref p34, .ref p35, .ref p36, .int 0, .int (-1), .int 0, .int 0, .ref p37]))]) hP hD [0] [] rfl rfl (by decide) (by decide) hk1 hFc ht hq
  generalize H1 = H at hP hS ⊢
  have hP : va_P (dC, dI) vwCl [(p0, .inr (11, [.int 0, .int 0, .int 0, .int 1, .long 1, .ref p1, .ref p2, .int 1, .ref p3, .int 0, .int 0, .int 1, .ref p4, .ref p5, .ref p6, .int 0, .ref p7, .int 0, .ref p8, .int 0, .int 0, .ref p9, .int 0, .ref p10, .int 0, .ref p11, .ref p12, .ref p13, .ref p14, .ref p15, .ref p16, .ref p17, .int 0, .int 0, .int 0, .int 0, .ref p18, .ref p19, .ref p20, .ref p21, .ref p22, .ref p23, .ref p24, .ref p25, .ref p26, .int 0, .int 0, .ref p27, .ref p28, .ref p29, .ref p30, .int 0, .int 0, .int 0, .int 0, .int 0, .int 0, .int 0, .int 0, .int 0, .int 0, .int 0, .int (-1), .int 0, .ref p31, .ref p32, .int 0, .ref p33, .ref p34, .ref p35, .ref p36, .int 0, .int (-1), .int 0, .int 0, .ref p37]))] H := hP
  have hD : va_D A [(p0, .inr (11, [.int 0, .int 0, .int 0, .int 1, .long 1, .ref p1, .ref p2, .int 1, .ref p3, .int 0, .int 0, .int 1, .ref p4, .ref p5, .ref p6, .int 0, .ref p7, .int 0, .ref p8, .int 0, .int 0, .ref p9, .int 0, .ref p10, .int 0, .ref p11, .ref p12, .ref p13, .ref p14, .ref p15, .ref p16, .ref p17, .int 0, .int 0, .int 0, .int 0, .ref p18, .ref p19, .ref p20, .ref p21, .ref p22, .ref p23, .ref p24, .ref p25, .ref p26, .int 0, .int 0, .ref p27, .ref p28, .ref p29, .ref p30, .int 0, .int 0, .int 0, .int 0, .int 0, .int 0, .int 0, .int 0, .int 0, .int 0, .int 0, .int (-1), .int 0, .ref p31, .ref p32, .int 0, .ref p33, .ref p34, .ref p35, .ref p36, .int 0, .int (-1), .int 0, .int 0, .ref p37]))] := hD
  refine tp_i (-1) hw ?_
  refine lv_istore_n (lv' := [(1, .int (-1)), (0, .ref p0)]) hx hb dX11_forget_4 rfl hl (by decide) rfl (fun ls hl => ?_)
  refine lv_iload_n hx hb dX11_forget_5 rfl (lv_at hl 0 rfl) ?_
  refine lv_iconst (v := (-1)) hx hb dX11_forget_6 (by decide) ?_
  refine lv_icmp_ne (tgt := 12) hx hb dX11_forget_7 (by decide) (fun c => absurd (by decide) c) (fun _ => ?_)
  refine lv_iconst (v := (-1)) hx hb dX11_forget_10 (by decide) ?_
  refine W.widen (k := 0) (n := 0) (Nat.le_of_ble_eq_true rfl) (Nat.le_of_ble_eq_true rfl) ?_
  exact W.iret (v := (-1)) hx hb hr (fun t ht hW9 => ⟨⟨(-1), (), rfl, rfl, trivial⟩, hS.F ht⟩) hS.2.2 dX11_forget_11
