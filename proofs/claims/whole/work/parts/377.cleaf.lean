-- deps: 376
-- constructors that call none, and small methods that constructors call (gen376.py)
set_option maxHeartbeats 4000000 in
set_option maxRecDepth 100000 in
theorem n_X9 (l : Launch) (D : va_G) (cA : Nat → ClassId) (h0 : Nat) (sz : Nat) : Met l yX9_init (wsM MX9_init) ({ frames := 2, cells := 2, slots := 400, locals := 40 }) (va_Pc [.ref h0] (fun U => U.heap.size = sz ∧ va_P D vwCl [(h0, .inr (9, [.null, .null, .int (nI 0)]))] U.heap ∧ va_K D vwCl (tyl cA) U ∧ va_D (fun _ => True) [(h0, .inr (9, [.null, .null, .int (nI 0)]))])) (va_Qv (fun _ : Nat → Nat => True) (fun a t => va_P D vwCl [(h0, .inr (9, [.ref (a 0), .ref (a 1), .int (nI 0)])), ((a 0), .inl (cA 0, 200, .inl (fun _ => nI 0))), ((a 1), .inl (cA 0, 200, .inl (fun _ => nI 0)))] t.heap ∧ va_K D vwCl (tyl cA) t ∧ va_D (va_A [(h0, .inr (9, [.null, .null, .int (nI 0)]))] sz) [(h0, .inr (9, [.ref (a 0), .ref (a 1), .int (nI 0)])), ((a 0), .inl (cA 0, 200, .inl (fun _ => nI 0))), ((a 1), .inl (cA 0, 200, .inl (fun _ => nI 0)))]) (va_A [(h0, .inr (9, [.null, .null, .int (nI 0)]))] sz)) 2 400 (va_A [(h0, .inr (9, [.null, .null, .int (nI 0)]))] sz) := by
  refine Met.ofW (cc := cX9_init) (maxL := 1) (ret := none) (by decide) rfl ?_
  intro p e s m args below meth c s₁ B hml hv
  obtain ⟨rfl, hsz, hP, hK, hD0⟩ := hv
  have hx := B.exec
  have hb := B.bytes
  have hr := B.returns
  have hts : ∀ w ∈ wT, w.before _ s = true := fun w hw => atoms_spec (ws := wsM MX9_init) B.pre w (List.mem_cons_of_mem _ hw)
  have hown : s.vm.findClass RX9 = some m.cls := findClass_of_methodNamed B.named
  have hin : meth.name = "<init>" := (name_of_methodNamed B.named B.method).1
  subst hsz
  have hD := hD0.self (sz := s.heap.size)
  generalize hAe : va_A [(h0, .inr (9, [.null, .null, .int (nI 0)]))] s.heap.size = A at hD ⊢
  have hA : ∀ q : Nat, s.heap.size ≤ q → A q := fun q h => by rw [← hAe]; exact Or.inr h
  have hS : va_S A s.heap s.heap [] := va_S.rf
  have hP : va_P D vwCl [(h0, .inr (9, [.null, .null, .int (nI 0)]))] s.heap := hP
  have hl := lv_entry ([.ref h0]) (n := 1) (Nat.le_of_ble_eq_true rfl)
  rw [lg_entry_eq]
  generalize (lg_sl ([.ref h0]) ++ List.replicate (1 - (lg_sl ([.ref h0])).length) Slot.unset).toArray = ls at hl ⊢
  have hl : lv_has ls 1 [(0, .ref h0)] := hl
  refine lv_aload_n hx hb dX9_init_0 rfl (lv_at hl 0 rfl) ?_
  refine W.objInit hx hb hown (hts _ oi_X9) (hts _ wd_oim) (hts _ wd_oic) rfl (by rw [hml]; exact hl.1) rfl dX9_init_1 (Nat.le_of_ble_eq_true rfl) (Nat.le_of_ble_eq_true rfl) ?_
  refine W.eq (g2 := F0 m 4 ls []) rfl ?_
  refine lv_aload_n hx hb dX9_init_4 rfl (lv_at hl 0 rfl) ?_
  refine lv_sipush (v := nI 200) hx hb dX9_init_5 (by decide) ?_
  refine vn_i (N := 200) hx hb hts hK hP hD hS hA (Nat.le_of_ble_eq_true rfl) (Nat.le_of_ble_eq_true rfl) (Nat.le_of_ble_eq_true rfl) dX9_init_8 (fun q1 H hP hD hS => ?_)
  have hP : va_P D vwCl [(h0, .inr (9, [.null, .null, .int (nI 0)])), (q1, .inl (cA 0, 200, .inl (fun _ => nI 0)))] H := hP
  have hD : va_D A [(h0, .inr (9, [.null, .null, .int (nI 0)])), (q1, .inl (cA 0, 200, .inl (fun _ => nI 0)))] := hD
  refine va_putF (D := D) (cl := vwCl) (ci := 9) (v := .ref q1) (ty := (.array .int)) (C := RX9) (T := TX9) (N := 3) hx hb hts iX9 tyX9 tyX9_ok nmX9 hown hK hP hD hS 0 rfl rfl 0 (by decide) (hts _ fl_X9_9) (fun _ h9 => h9) rfl hin rfl (by decide +kernel) rfl rfl (Nat.le_of_ble_eq_true rfl) dX9_init_10 (fun H locs hP hD hS => ?_)
  have hP : va_P D vwCl [(h0, .inr (9, [.ref q1, .null, .int (nI 0)])), (q1, .inl (cA 0, 200, .inl (fun _ => nI 0)))] H := hP
  have hD : va_D A [(h0, .inr (9, [.ref q1, .null, .int (nI 0)])), (q1, .inl (cA 0, 200, .inl (fun _ => nI 0)))] := hD
  refine lv_aload_n hx hb dX9_init_13 rfl (lv_at hl 0 rfl) ?_
  refine lv_sipush (v := nI 200) hx hb dX9_init_14 (by decide) ?_
  refine vn_i (N := 200) hx hb hts hK hP hD hS hA (Nat.le_of_ble_eq_true rfl) (Nat.le_of_ble_eq_true rfl) (Nat.le_of_ble_eq_true rfl) dX9_init_17 (fun q2 H hP hD hS => ?_)
  have hP : va_P D vwCl [(h0, .inr (9, [.ref q1, .null, .int (nI 0)])), (q1, .inl (cA 0, 200, .inl (fun _ => nI 0))), (q2, .inl (cA 0, 200, .inl (fun _ => nI 0)))] H := hP
  have hD : va_D A [(h0, .inr (9, [.ref q1, .null, .int (nI 0)])), (q1, .inl (cA 0, 200, .inl (fun _ => nI 0))), (q2, .inl (cA 0, 200, .inl (fun _ => nI 0)))] := hD
  refine va_putF (D := D) (cl := vwCl) (ci := 9) (v := .ref q2) (ty := (.array .int)) (C := RX9) (T := TX9) (N := 3) hx hb hts iX9 tyX9 tyX9_ok nmX9 hown hK hP hD hS 0 rfl rfl 1 (by decide) (hts _ fl_X9_15) (fun _ h9 => h9) rfl hin rfl (by decide +kernel) rfl rfl (Nat.le_of_ble_eq_true rfl) dX9_init_19 (fun H locs hP hD hS => ?_)
  have hP : va_P D vwCl [(h0, .inr (9, [.ref q1, .ref q2, .int (nI 0)])), (q1, .inl (cA 0, 200, .inl (fun _ => nI 0))), (q2, .inl (cA 0, 200, .inl (fun _ => nI 0)))] H := hP
  have hD : va_D A [(h0, .inr (9, [.ref q1, .ref q2, .int (nI 0)])), (q1, .inl (cA 0, 200, .inl (fun _ => nI 0))), (q2, .inl (cA 0, 200, .inl (fun _ => nI 0)))] := hD
  refine lv_aload_n hx hb dX9_init_22 rfl (lv_at hl 0 rfl) ?_
  refine lv_iconst (v := nI 0) hx hb dX9_init_23 (by decide) ?_
  refine va_put (D := D) (cl := vwCl) (ci := 9) (v := .int (nI 0)) (ty := .int) (C := RX9) (T := TX9) (N := 3) hx hb hts iX9 tyX9 tyX9_ok nmX9 hown hK hP hD hS 0 rfl rfl 2 (by decide) (hts _ fl_X9_18) (fun _ h9 => h9) rfl (by decide +kernel) rfl rfl (Nat.le_of_ble_eq_true rfl) dX9_init_24 (fun H locs hP hD hS => ?_)
  have hP : va_P D vwCl [(h0, .inr (9, [.ref q1, .ref q2, .int (nI 0)])), (q1, .inl (cA 0, 200, .inl (fun _ => nI 0))), (q2, .inl (cA 0, 200, .inl (fun _ => nI 0)))] H := hP
  have hD : va_D A [(h0, .inr (9, [.ref q1, .ref q2, .int (nI 0)])), (q1, .inl (cA 0, 200, .inl (fun _ => nI 0))), (q2, .inl (cA 0, 200, .inl (fun _ => nI 0)))] := hD
  refine W.widen (k := 2) (n := 400) (Nat.le_of_ble_eq_true rfl) (Nat.le_of_ble_eq_true rfl) ?_
  exact W.vret hx hb hr (fun t ht hW => ⟨⟨(fun i => [q1, q2].getD i 0), rfl, trivial, by rw [ht]; exact hP, va_K.moved hW.alike hK, hD⟩, hS.F ht⟩) hS.2.2 dX9_init_27
set_option maxHeartbeats 4000000 in
set_option maxRecDepth 100000 in
theorem n_X1 (l : Launch) (D : va_G) (cA : Nat → ClassId) (h0 : Nat) (sz : Nat) : Met l yX1_init (wsM MX1_init) ({ frames := 2, cells := 2, slots := 512, locals := 40 }) (va_Pc [.ref h0] (fun U => U.heap.size = sz ∧ va_P D vwCl [(h0, .inr (1, [.null, .null, .int (nI 0)]))] U.heap ∧ va_K D vwCl (tyl cA) U ∧ va_D (fun _ => True) [(h0, .inr (1, [.null, .null, .int (nI 0)]))])) (va_Qv (fun _ : Nat → Nat => True) (fun a t => va_P D vwCl [(h0, .inr (1, [.ref (a 0), .ref (a 1), .int (nI 0)])), ((a 0), .inl (cA 0, 256, .inl (fun _ => nI 0))), ((a 1), .inl (cA 0, 256, .inl (fun _ => nI 0)))] t.heap ∧ va_K D vwCl (tyl cA) t ∧ va_D (va_A [(h0, .inr (1, [.null, .null, .int (nI 0)]))] sz) [(h0, .inr (1, [.ref (a 0), .ref (a 1), .int (nI 0)])), ((a 0), .inl (cA 0, 256, .inl (fun _ => nI 0))), ((a 1), .inl (cA 0, 256, .inl (fun _ => nI 0)))]) (va_A [(h0, .inr (1, [.null, .null, .int (nI 0)]))] sz)) 2 512 (va_A [(h0, .inr (1, [.null, .null, .int (nI 0)]))] sz) := by
  refine Met.ofW (cc := cX1_init) (maxL := 1) (ret := none) (by decide) rfl ?_
  intro p e s m args below meth c s₁ B hml hv
  obtain ⟨rfl, hsz, hP, hK, hD0⟩ := hv
  have hx := B.exec
  have hb := B.bytes
  have hr := B.returns
  have hts : ∀ w ∈ wT, w.before _ s = true := fun w hw => atoms_spec (ws := wsM MX1_init) B.pre w (List.mem_cons_of_mem _ hw)
  have hown : s.vm.findClass RX1 = some m.cls := findClass_of_methodNamed B.named
  have hin : meth.name = "<init>" := (name_of_methodNamed B.named B.method).1
  subst hsz
  have hD := hD0.self (sz := s.heap.size)
  generalize hAe : va_A [(h0, .inr (1, [.null, .null, .int (nI 0)]))] s.heap.size = A at hD ⊢
  have hA : ∀ q : Nat, s.heap.size ≤ q → A q := fun q h => by rw [← hAe]; exact Or.inr h
  have hS : va_S A s.heap s.heap [] := va_S.rf
  have hP : va_P D vwCl [(h0, .inr (1, [.null, .null, .int (nI 0)]))] s.heap := hP
  have hl := lv_entry ([.ref h0]) (n := 1) (Nat.le_of_ble_eq_true rfl)
  rw [lg_entry_eq]
  generalize (lg_sl ([.ref h0]) ++ List.replicate (1 - (lg_sl ([.ref h0])).length) Slot.unset).toArray = ls at hl ⊢
  have hl : lv_has ls 1 [(0, .ref h0)] := hl
  refine lv_aload_n hx hb dX1_init_0 rfl (lv_at hl 0 rfl) ?_
  refine W.objInit hx hb hown (hts _ oi_X1) (hts _ wd_oim) (hts _ wd_oic) rfl (by rw [hml]; exact hl.1) rfl dX1_init_1 (Nat.le_of_ble_eq_true rfl) (Nat.le_of_ble_eq_true rfl) ?_
  refine W.eq (g2 := F0 m 4 ls []) rfl ?_
  refine lv_aload_n hx hb dX1_init_4 rfl (lv_at hl 0 rfl) ?_
  refine lv_sipush (v := nI 256) hx hb dX1_init_5 (by decide) ?_
  refine vn_i (N := 256) hx hb hts hK hP hD hS hA (Nat.le_of_ble_eq_true rfl) (Nat.le_of_ble_eq_true rfl) (Nat.le_of_ble_eq_true rfl) dX1_init_8 (fun q1 H hP hD hS => ?_)
  have hP : va_P D vwCl [(h0, .inr (1, [.null, .null, .int (nI 0)])), (q1, .inl (cA 0, 256, .inl (fun _ => nI 0)))] H := hP
  have hD : va_D A [(h0, .inr (1, [.null, .null, .int (nI 0)])), (q1, .inl (cA 0, 256, .inl (fun _ => nI 0)))] := hD
  refine va_putF (D := D) (cl := vwCl) (ci := 1) (v := .ref q1) (ty := (.array .int)) (C := RX1) (T := TX1) (N := 3) hx hb hts iX1 tyX1 tyX1_ok nmX1 hown hK hP hD hS 0 rfl rfl 0 (by decide) (hts _ fl_X1_11) (fun _ h9 => h9) rfl hin rfl (by decide +kernel) rfl rfl (Nat.le_of_ble_eq_true rfl) dX1_init_10 (fun H locs hP hD hS => ?_)
  have hP : va_P D vwCl [(h0, .inr (1, [.ref q1, .null, .int (nI 0)])), (q1, .inl (cA 0, 256, .inl (fun _ => nI 0)))] H := hP
  have hD : va_D A [(h0, .inr (1, [.ref q1, .null, .int (nI 0)])), (q1, .inl (cA 0, 256, .inl (fun _ => nI 0)))] := hD
  refine lv_aload_n hx hb dX1_init_13 rfl (lv_at hl 0 rfl) ?_
  refine lv_sipush (v := nI 256) hx hb dX1_init_14 (by decide) ?_
  refine vn_i (N := 256) hx hb hts hK hP hD hS hA (Nat.le_of_ble_eq_true rfl) (Nat.le_of_ble_eq_true rfl) (Nat.le_of_ble_eq_true rfl) dX1_init_17 (fun q2 H hP hD hS => ?_)
  have hP : va_P D vwCl [(h0, .inr (1, [.ref q1, .null, .int (nI 0)])), (q1, .inl (cA 0, 256, .inl (fun _ => nI 0))), (q2, .inl (cA 0, 256, .inl (fun _ => nI 0)))] H := hP
  have hD : va_D A [(h0, .inr (1, [.ref q1, .null, .int (nI 0)])), (q1, .inl (cA 0, 256, .inl (fun _ => nI 0))), (q2, .inl (cA 0, 256, .inl (fun _ => nI 0)))] := hD
  refine va_putF (D := D) (cl := vwCl) (ci := 1) (v := .ref q2) (ty := (.array .int)) (C := RX1) (T := TX1) (N := 3) hx hb hts iX1 tyX1 tyX1_ok nmX1 hown hK hP hD hS 0 rfl rfl 1 (by decide) (hts _ fl_X1_15) (fun _ h9 => h9) rfl hin rfl (by decide +kernel) rfl rfl (Nat.le_of_ble_eq_true rfl) dX1_init_19 (fun H locs hP hD hS => ?_)
  have hP : va_P D vwCl [(h0, .inr (1, [.ref q1, .ref q2, .int (nI 0)])), (q1, .inl (cA 0, 256, .inl (fun _ => nI 0))), (q2, .inl (cA 0, 256, .inl (fun _ => nI 0)))] H := hP
  have hD : va_D A [(h0, .inr (1, [.ref q1, .ref q2, .int (nI 0)])), (q1, .inl (cA 0, 256, .inl (fun _ => nI 0))), (q2, .inl (cA 0, 256, .inl (fun _ => nI 0)))] := hD
  refine lv_aload_n hx hb dX1_init_22 rfl (lv_at hl 0 rfl) ?_
  refine lv_iconst (v := nI 0) hx hb dX1_init_23 (by decide) ?_
  refine va_put (D := D) (cl := vwCl) (ci := 1) (v := .int (nI 0)) (ty := .int) (C := RX1) (T := TX1) (N := 3) hx hb hts iX1 tyX1 tyX1_ok nmX1 hown hK hP hD hS 0 rfl rfl 2 (by decide) (hts _ fl_X1_18) (fun _ h9 => h9) rfl (by decide +kernel) rfl rfl (Nat.le_of_ble_eq_true rfl) dX1_init_24 (fun H locs hP hD hS => ?_)
  have hP : va_P D vwCl [(h0, .inr (1, [.ref q1, .ref q2, .int (nI 0)])), (q1, .inl (cA 0, 256, .inl (fun _ => nI 0))), (q2, .inl (cA 0, 256, .inl (fun _ => nI 0)))] H := hP
  have hD : va_D A [(h0, .inr (1, [.ref q1, .ref q2, .int (nI 0)])), (q1, .inl (cA 0, 256, .inl (fun _ => nI 0))), (q2, .inl (cA 0, 256, .inl (fun _ => nI 0)))] := hD
  refine W.widen (k := 2) (n := 512) (Nat.le_of_ble_eq_true rfl) (Nat.le_of_ble_eq_true rfl) ?_
  exact W.vret hx hb hr (fun t ht hW => ⟨⟨(fun i => [q1, q2].getD i 0), rfl, trivial, by rw [ht]; exact hP, va_K.moved hW.alike hK, hD⟩, hS.F ht⟩) hS.2.2 dX1_init_27
set_option maxHeartbeats 4000000 in
set_option maxRecDepth 100000 in
theorem n_X4 (l : Launch) (D : va_G) (cA : Nat → ClassId) (h0 r1 r2 : Nat) (sz : Nat) : Met l yX4_init (wsM MX4_init) ({ frames := 2, cells := 0, slots := 0, locals := 40 }) (va_Pc [.ref h0, .ref r1, .ref r2] (fun U => U.heap.size = sz ∧ va_P D vwCl [(h0, .inr (4, [.null, .null, .int (nI 0)]))] U.heap ∧ va_K D vwCl (tyl cA) U ∧ va_D (fun _ => True) [(h0, .inr (4, [.null, .null, .int (nI 0)]))])) (va_Qv (fun _ : Nat → Nat => True) (fun a t => va_P D vwCl [(h0, .inr (4, [.ref r1, .ref r2, .int (nI 0)]))] t.heap ∧ va_K D vwCl (tyl cA) t ∧ va_D (va_A [(h0, .inr (4, [.null, .null, .int (nI 0)]))] sz) [(h0, .inr (4, [.ref r1, .ref r2, .int (nI 0)]))]) (va_A [(h0, .inr (4, [.null, .null, .int (nI 0)]))] sz)) 0 0 (va_A [(h0, .inr (4, [.null, .null, .int (nI 0)]))] sz) := by
  refine Met.ofW (cc := cX4_init) (maxL := 3) (ret := none) (by decide) rfl ?_
  intro p e s m args below meth c s₁ B hml hv
  obtain ⟨rfl, hsz, hP, hK, hD0⟩ := hv
  have hx := B.exec
  have hb := B.bytes
  have hr := B.returns
  have hts : ∀ w ∈ wT, w.before _ s = true := fun w hw => atoms_spec (ws := wsM MX4_init) B.pre w (List.mem_cons_of_mem _ hw)
  have hown : s.vm.findClass RX4 = some m.cls := findClass_of_methodNamed B.named
  have hin : meth.name = "<init>" := (name_of_methodNamed B.named B.method).1
  subst hsz
  have hD := hD0.self (sz := s.heap.size)
  generalize hAe : va_A [(h0, .inr (4, [.null, .null, .int (nI 0)]))] s.heap.size = A at hD ⊢
  have hA : ∀ q : Nat, s.heap.size ≤ q → A q := fun q h => by rw [← hAe]; exact Or.inr h
  have hS : va_S A s.heap s.heap [] := va_S.rf
  have hP : va_P D vwCl [(h0, .inr (4, [.null, .null, .int (nI 0)]))] s.heap := hP
  have hl := lv_entry ([.ref h0, .ref r1, .ref r2]) (n := 3) (Nat.le_of_ble_eq_true rfl)
  rw [lg_entry_eq]
  generalize (lg_sl ([.ref h0, .ref r1, .ref r2]) ++ List.replicate (3 - (lg_sl ([.ref h0, .ref r1, .ref r2])).length) Slot.unset).toArray = ls at hl ⊢
  have hl : lv_has ls 3 [(0, .ref h0), (1, .ref r1), (2, .ref r2)] := hl
  refine lv_aload_n hx hb dX4_init_0 rfl (lv_at hl 0 rfl) ?_
  refine W.objInit hx hb hown (hts _ oi_X4) (hts _ wd_oim) (hts _ wd_oic) rfl (by rw [hml]; exact hl.1) rfl dX4_init_1 (Nat.le_of_ble_eq_true rfl) (Nat.le_of_ble_eq_true rfl) ?_
  refine W.eq (g2 := F0 m 4 ls []) rfl ?_
  refine lv_aload_n hx hb dX4_init_4 rfl (lv_at hl 0 rfl) ?_
  refine lv_aload_n hx hb dX4_init_5 rfl (lv_at hl 1 rfl) ?_
  refine va_putF (D := D) (cl := vwCl) (ci := 4) (v := .ref r1) (ty := (.object "QueryForge$Words")) (C := RX4) (T := TX4) (N := 3) hx hb hts iX4 tyX4 tyX4_ok nmX4 hown hK hP hD hS 0 rfl rfl 0 (by decide) (hts _ fl_X4_9) (fun _ h9 => h9) rfl hin rfl (by decide +kernel) rfl rfl (Nat.le_of_ble_eq_true rfl) dX4_init_6 (fun H locs hP hD hS => ?_)
  have hP : va_P D vwCl [(h0, .inr (4, [.ref r1, .null, .int (nI 0)]))] H := hP
  have hD : va_D A [(h0, .inr (4, [.ref r1, .null, .int (nI 0)]))] := hD
  refine lv_aload_n hx hb dX4_init_9 rfl (lv_at hl 0 rfl) ?_
  refine lv_aload_n hx hb dX4_init_10 rfl (lv_at hl 2 rfl) ?_
  refine va_putF (D := D) (cl := vwCl) (ci := 4) (v := .ref r2) (ty := (.object "QueryForge$Statement")) (C := RX4) (T := TX4) (N := 3) hx hb hts iX4 tyX4 tyX4_ok nmX4 hown hK hP hD hS 0 rfl rfl 1 (by decide) (hts _ fl_X4_15) (fun _ h9 => h9) rfl hin rfl (by decide +kernel) rfl rfl (Nat.le_of_ble_eq_true rfl) dX4_init_11 (fun H locs hP hD hS => ?_)
  have hP : va_P D vwCl [(h0, .inr (4, [.ref r1, .ref r2, .int (nI 0)]))] H := hP
  have hD : va_D A [(h0, .inr (4, [.ref r1, .ref r2, .int (nI 0)]))] := hD
  refine lv_aload_n hx hb dX4_init_14 rfl (lv_at hl 0 rfl) ?_
  refine lv_iconst (v := nI 0) hx hb dX4_init_15 (by decide) ?_
  refine va_put (D := D) (cl := vwCl) (ci := 4) (v := .int (nI 0)) (ty := .int) (C := RX4) (T := TX4) (N := 3) hx hb hts iX4 tyX4 tyX4_ok nmX4 hown hK hP hD hS 0 rfl rfl 2 (by decide) (hts _ fl_X4_19) (fun _ h9 => h9) rfl (by decide +kernel) rfl rfl (Nat.le_of_ble_eq_true rfl) dX4_init_16 (fun H locs hP hD hS => ?_)
  have hP : va_P D vwCl [(h0, .inr (4, [.ref r1, .ref r2, .int (nI 0)]))] H := hP
  have hD : va_D A [(h0, .inr (4, [.ref r1, .ref r2, .int (nI 0)]))] := hD
  refine W.widen (k := 0) (n := 0) (Nat.le_of_ble_eq_true rfl) (Nat.le_of_ble_eq_true rfl) ?_
  exact W.vret hx hb hr (fun t ht hW => ⟨⟨(fun i => [].getD i 0), rfl, trivial, by rw [ht]; exact hP, va_K.moved hW.alike hK, hD⟩, hS.F ht⟩) hS.2.2 dX4_init_19
set_option maxHeartbeats 4000000 in
set_option maxRecDepth 100000 in
theorem n_X0 (l : Launch) (D : va_G) (cA : Nat → ClassId) (h0 r1 r2 r3 : Nat) (sz : Nat) : Met l yX0_init (wsM MX0_init) ({ frames := 2, cells := 1, slots := 200, locals := 40 }) (va_Pc [.ref h0, .ref r1, .ref r2, .ref r3] (fun U => U.heap.size = sz ∧ va_P D vwCl [(h0, .inr (0, [.null, .null, .null, .null, .int (nI 0), .int (nI 0)]))] U.heap ∧ va_K D vwCl (tyl cA) U ∧ va_D (fun _ => True) [(h0, .inr (0, [.null, .null, .null, .null, .int (nI 0), .int (nI 0)]))])) (va_Qv (fun _ : Nat → Nat => True) (fun a t => va_P D vwCl [(h0, .inr (0, [.ref r1, .ref r2, .ref r3, .ref (a 0), .int (nI 0), .int (nI 0)])), ((a 0), .inl (cA 0, 200, .inl (fun _ => nI 0)))] t.heap ∧ va_K D vwCl (tyl cA) t ∧ va_D (va_A [(h0, .inr (0, [.null, .null, .null, .null, .int (nI 0), .int (nI 0)]))] sz) [(h0, .inr (0, [.ref r1, .ref r2, .ref r3, .ref (a 0), .int (nI 0), .int (nI 0)])), ((a 0), .inl (cA 0, 200, .inl (fun _ => nI 0)))]) (va_A [(h0, .inr (0, [.null, .null, .null, .null, .int (nI 0), .int (nI 0)]))] sz)) 1 200 (va_A [(h0, .inr (0, [.null, .null, .null, .null, .int (nI 0), .int (nI 0)]))] sz) := by
  refine Met.ofW (cc := cX0_init) (maxL := 4) (ret := none) (by decide) rfl ?_
  intro p e s m args below meth c s₁ B hml hv
  obtain ⟨rfl, hsz, hP, hK, hD0⟩ := hv
  have hx := B.exec
  have hb := B.bytes
  have hr := B.returns
  have hts : ∀ w ∈ wT, w.before _ s = true := fun w hw => atoms_spec (ws := wsM MX0_init) B.pre w (List.mem_cons_of_mem _ hw)
  have hown : s.vm.findClass RX0 = some m.cls := findClass_of_methodNamed B.named
  have hin : meth.name = "<init>" := (name_of_methodNamed B.named B.method).1
  subst hsz
  have hD := hD0.self (sz := s.heap.size)
  generalize hAe : va_A [(h0, .inr (0, [.null, .null, .null, .null, .int (nI 0), .int (nI 0)]))] s.heap.size = A at hD ⊢
  have hA : ∀ q : Nat, s.heap.size ≤ q → A q := fun q h => by rw [← hAe]; exact Or.inr h
  have hS : va_S A s.heap s.heap [] := va_S.rf
  have hP : va_P D vwCl [(h0, .inr (0, [.null, .null, .null, .null, .int (nI 0), .int (nI 0)]))] s.heap := hP
  have hl := lv_entry ([.ref h0, .ref r1, .ref r2, .ref r3]) (n := 4) (Nat.le_of_ble_eq_true rfl)
  rw [lg_entry_eq]
  generalize (lg_sl ([.ref h0, .ref r1, .ref r2, .ref r3]) ++ List.replicate (4 - (lg_sl ([.ref h0, .ref r1, .ref r2, .ref r3])).length) Slot.unset).toArray = ls at hl ⊢
  have hl : lv_has ls 4 [(0, .ref h0), (1, .ref r1), (2, .ref r2), (3, .ref r3)] := hl
  refine lv_aload_n hx hb dX0_init_0 rfl (lv_at hl 0 rfl) ?_
  refine W.objInit hx hb hown (hts _ oi_X0) (hts _ wd_oim) (hts _ wd_oic) rfl (by rw [hml]; exact hl.1) rfl dX0_init_1 (Nat.le_of_ble_eq_true rfl) (Nat.le_of_ble_eq_true rfl) ?_
  refine W.eq (g2 := F0 m 4 ls []) rfl ?_
  refine lv_aload_n hx hb dX0_init_4 rfl (lv_at hl 0 rfl) ?_
  refine lv_aload_n hx hb dX0_init_5 rfl (lv_at hl 1 rfl) ?_
  refine va_putF (D := D) (cl := vwCl) (ci := 0) (v := .ref r1) (ty := (.object "QueryForge$Words")) (C := RX0) (T := TX0) (N := 6) hx hb hts iX0 tyX0 tyX0_ok nmX0 hown hK hP hD hS 0 rfl rfl 0 (by decide) (hts _ fl_X0_9) (fun _ h9 => h9) rfl hin rfl (by decide +kernel) rfl rfl (Nat.le_of_ble_eq_true rfl) dX0_init_6 (fun H locs hP hD hS => ?_)
  have hP : va_P D vwCl [(h0, .inr (0, [.ref r1, .null, .null, .null, .int (nI 0), .int (nI 0)]))] H := hP
  have hD : va_D A [(h0, .inr (0, [.ref r1, .null, .null, .null, .int (nI 0), .int (nI 0)]))] := hD
  refine lv_aload_n hx hb dX0_init_9 rfl (lv_at hl 0 rfl) ?_
  refine lv_aload_n hx hb dX0_init_10 rfl (lv_at hl 2 rfl) ?_
  refine va_putF (D := D) (cl := vwCl) (ci := 0) (v := .ref r2) (ty := (.object "QueryForge$Statement")) (C := RX0) (T := TX0) (N := 6) hx hb hts iX0 tyX0 tyX0_ok nmX0 hown hK hP hD hS 0 rfl rfl 1 (by decide) (hts _ fl_X0_15) (fun _ h9 => h9) rfl hin rfl (by decide +kernel) rfl rfl (Nat.le_of_ble_eq_true rfl) dX0_init_11 (fun H locs hP hD hS => ?_)
  have hP : va_P D vwCl [(h0, .inr (0, [.ref r1, .ref r2, .null, .null, .int (nI 0), .int (nI 0)]))] H := hP
  have hD : va_D A [(h0, .inr (0, [.ref r1, .ref r2, .null, .null, .int (nI 0), .int (nI 0)]))] := hD
  refine lv_aload_n hx hb dX0_init_14 rfl (lv_at hl 0 rfl) ?_
  refine lv_aload_n hx hb dX0_init_15 rfl (lv_at hl 3 rfl) ?_
  refine va_putF (D := D) (cl := vwCl) (ci := 0) (v := .ref r3) (ty := (.object "QueryForge$Tables")) (C := RX0) (T := TX0) (N := 6) hx hb hts iX0 tyX0 tyX0_ok nmX0 hown hK hP hD hS 0 rfl rfl 2 (by decide) (hts _ fl_X0_19) (fun _ h9 => h9) rfl hin rfl (by decide +kernel) rfl rfl (Nat.le_of_ble_eq_true rfl) dX0_init_16 (fun H locs hP hD hS => ?_)
  have hP : va_P D vwCl [(h0, .inr (0, [.ref r1, .ref r2, .ref r3, .null, .int (nI 0), .int (nI 0)]))] H := hP
  have hD : va_D A [(h0, .inr (0, [.ref r1, .ref r2, .ref r3, .null, .int (nI 0), .int (nI 0)]))] := hD
  refine lv_aload_n hx hb dX0_init_19 rfl (lv_at hl 0 rfl) ?_
  refine lv_sipush (v := nI 200) hx hb dX0_init_20 (by decide) ?_
  refine vn_i (N := 200) hx hb hts hK hP hD hS hA (Nat.le_of_ble_eq_true rfl) (Nat.le_of_ble_eq_true rfl) (Nat.le_of_ble_eq_true rfl) dX0_init_23 (fun q1 H hP hD hS => ?_)
  have hP : va_P D vwCl [(h0, .inr (0, [.ref r1, .ref r2, .ref r3, .null, .int (nI 0), .int (nI 0)])), (q1, .inl (cA 0, 200, .inl (fun _ => nI 0)))] H := hP
  have hD : va_D A [(h0, .inr (0, [.ref r1, .ref r2, .ref r3, .null, .int (nI 0), .int (nI 0)])), (q1, .inl (cA 0, 200, .inl (fun _ => nI 0)))] := hD
  refine va_putF (D := D) (cl := vwCl) (ci := 0) (v := .ref q1) (ty := (.array .int)) (C := RX0) (T := TX0) (N := 6) hx hb hts iX0 tyX0 tyX0_ok nmX0 hown hK hP hD hS 0 rfl rfl 3 (by decide) (hts _ fl_X0_23) (fun _ h9 => h9) rfl hin rfl (by decide +kernel) rfl rfl (Nat.le_of_ble_eq_true rfl) dX0_init_25 (fun H locs hP hD hS => ?_)
  have hP : va_P D vwCl [(h0, .inr (0, [.ref r1, .ref r2, .ref r3, .ref q1, .int (nI 0), .int (nI 0)])), (q1, .inl (cA 0, 200, .inl (fun _ => nI 0)))] H := hP
  have hD : va_D A [(h0, .inr (0, [.ref r1, .ref r2, .ref r3, .ref q1, .int (nI 0), .int (nI 0)])), (q1, .inl (cA 0, 200, .inl (fun _ => nI 0)))] := hD
  refine lv_aload_n hx hb dX0_init_28 rfl (lv_at hl 0 rfl) ?_
  refine lv_iconst (v := nI 0) hx hb dX0_init_29 (by decide) ?_
  refine va_put (D := D) (cl := vwCl) (ci := 0) (v := .int (nI 0)) (ty := .int) (C := RX0) (T := TX0) (N := 6) hx hb hts iX0 tyX0 tyX0_ok nmX0 hown hK hP hD hS 0 rfl rfl 4 (by decide) (hts _ fl_X0_27) (fun _ h9 => h9) rfl (by decide +kernel) rfl rfl (Nat.le_of_ble_eq_true rfl) dX0_init_30 (fun H locs hP hD hS => ?_)
  have hP : va_P D vwCl [(h0, .inr (0, [.ref r1, .ref r2, .ref r3, .ref q1, .int (nI 0), .int (nI 0)])), (q1, .inl (cA 0, 200, .inl (fun _ => nI 0)))] H := hP
  have hD : va_D A [(h0, .inr (0, [.ref r1, .ref r2, .ref r3, .ref q1, .int (nI 0), .int (nI 0)])), (q1, .inl (cA 0, 200, .inl (fun _ => nI 0)))] := hD
  refine lv_aload_n hx hb dX0_init_33 rfl (lv_at hl 0 rfl) ?_
  refine lv_iconst (v := nI 0) hx hb dX0_init_34 (by decide) ?_
  refine va_put (D := D) (cl := vwCl) (ci := 0) (v := .int (nI 0)) (ty := .int) (C := RX0) (T := TX0) (N := 6) hx hb hts iX0 tyX0 tyX0_ok nmX0 hown hK hP hD hS 0 rfl rfl 5 (by decide) (hts _ fl_X0_31) (fun _ h9 => h9) rfl (by decide +kernel) rfl rfl (Nat.le_of_ble_eq_true rfl) dX0_init_35 (fun H locs hP hD hS => ?_)
  have hP : va_P D vwCl [(h0, .inr (0, [.ref r1, .ref r2, .ref r3, .ref q1, .int (nI 0), .int (nI 0)])), (q1, .inl (cA 0, 200, .inl (fun _ => nI 0)))] H := hP
  have hD : va_D A [(h0, .inr (0, [.ref r1, .ref r2, .ref r3, .ref q1, .int (nI 0), .int (nI 0)])), (q1, .inl (cA 0, 200, .inl (fun _ => nI 0)))] := hD
  refine W.widen (k := 1) (n := 200) (Nat.le_of_ble_eq_true rfl) (Nat.le_of_ble_eq_true rfl) ?_
  exact W.vret hx hb hr (fun t ht hW => ⟨⟨(fun i => [q1].getD i 0), rfl, trivial, by rw [ht]; exact hP, va_K.moved hW.alike hK, hD⟩, hS.F ht⟩) hS.2.2 dX0_init_38
set_option maxHeartbeats 4000000 in
set_option maxRecDepth 100000 in
theorem n_X3 (l : Launch) (D : va_G) (cA : Nat → ClassId) (h0 r1 r2 : Nat) (sz : Nat) : Met l yX3_init (wsM MX3_init) ({ frames := 2, cells := 0, slots := 0, locals := 40 }) (va_Pc [.ref h0, .ref r1, .ref r2] (fun U => U.heap.size = sz ∧ va_P D vwCl [(h0, .inr (3, [.null, .null]))] U.heap ∧ va_K D vwCl (tyl cA) U ∧ va_D (fun _ => True) [(h0, .inr (3, [.null, .null]))])) (va_Qv (fun _ : Nat → Nat => True) (fun a t => va_P D vwCl [(h0, .inr (3, [.ref r1, .ref r2]))] t.heap ∧ va_K D vwCl (tyl cA) t ∧ va_D (va_A [(h0, .inr (3, [.null, .null]))] sz) [(h0, .inr (3, [.ref r1, .ref r2]))]) (va_A [(h0, .inr (3, [.null, .null]))] sz)) 0 0 (va_A [(h0, .inr (3, [.null, .null]))] sz) := by
  refine Met.ofW (cc := cX3_init) (maxL := 3) (ret := none) (by decide) rfl ?_
  intro p e s m args below meth c s₁ B hml hv
  obtain ⟨rfl, hsz, hP, hK, hD0⟩ := hv
  have hx := B.exec
  have hb := B.bytes
  have hr := B.returns
  have hts : ∀ w ∈ wT, w.before _ s = true := fun w hw => atoms_spec (ws := wsM MX3_init) B.pre w (List.mem_cons_of_mem _ hw)
  have hown : s.vm.findClass RX3 = some m.cls := findClass_of_methodNamed B.named
  have hin : meth.name = "<init>" := (name_of_methodNamed B.named B.method).1
  subst hsz
  have hD := hD0.self (sz := s.heap.size)
  generalize hAe : va_A [(h0, .inr (3, [.null, .null]))] s.heap.size = A at hD ⊢
  have hA : ∀ q : Nat, s.heap.size ≤ q → A q := fun q h => by rw [← hAe]; exact Or.inr h
  have hS : va_S A s.heap s.heap [] := va_S.rf
  have hP : va_P D vwCl [(h0, .inr (3, [.null, .null]))] s.heap := hP
  have hl := lv_entry ([.ref h0, .ref r1, .ref r2]) (n := 3) (Nat.le_of_ble_eq_true rfl)
  rw [lg_entry_eq]
  generalize (lg_sl ([.ref h0, .ref r1, .ref r2]) ++ List.replicate (3 - (lg_sl ([.ref h0, .ref r1, .ref r2])).length) Slot.unset).toArray = ls at hl ⊢
  have hl : lv_has ls 3 [(0, .ref h0), (1, .ref r1), (2, .ref r2)] := hl
  refine lv_aload_n hx hb dX3_init_0 rfl (lv_at hl 0 rfl) ?_
  refine W.objInit hx hb hown (hts _ oi_X3) (hts _ wd_oim) (hts _ wd_oic) rfl (by rw [hml]; exact hl.1) rfl dX3_init_1 (Nat.le_of_ble_eq_true rfl) (Nat.le_of_ble_eq_true rfl) ?_
  refine W.eq (g2 := F0 m 4 ls []) rfl ?_
  refine lv_aload_n hx hb dX3_init_4 rfl (lv_at hl 0 rfl) ?_
  refine lv_aload_n hx hb dX3_init_5 rfl (lv_at hl 1 rfl) ?_
  refine va_putF (D := D) (cl := vwCl) (ci := 3) (v := .ref r1) (ty := (.object "QueryForge$Statement")) (C := RX3) (T := TX3) (N := 2) hx hb hts iX3 tyX3 tyX3_ok nmX3 hown hK hP hD hS 0 rfl rfl 0 (by decide) (hts _ fl_X3_9) (fun _ h9 => h9) rfl hin rfl (by decide +kernel) rfl rfl (Nat.le_of_ble_eq_true rfl) dX3_init_6 (fun H locs hP hD hS => ?_)
  have hP : va_P D vwCl [(h0, .inr (3, [.ref r1, .null]))] H := hP
  have hD : va_D A [(h0, .inr (3, [.ref r1, .null]))] := hD
  refine lv_aload_n hx hb dX3_init_9 rfl (lv_at hl 0 rfl) ?_
  refine lv_aload_n hx hb dX3_init_10 rfl (lv_at hl 2 rfl) ?_
  refine va_putF (D := D) (cl := vwCl) (ci := 3) (v := .ref r2) (ty := (.object "QueryForge$Code")) (C := RX3) (T := TX3) (N := 2) hx hb hts iX3 tyX3 tyX3_ok nmX3 hown hK hP hD hS 0 rfl rfl 1 (by decide) (hts _ fl_X3_15) (fun _ h9 => h9) rfl hin rfl (by decide +kernel) rfl rfl (Nat.le_of_ble_eq_true rfl) dX3_init_11 (fun H locs hP hD hS => ?_)
  have hP : va_P D vwCl [(h0, .inr (3, [.ref r1, .ref r2]))] H := hP
  have hD : va_D A [(h0, .inr (3, [.ref r1, .ref r2]))] := hD
  refine W.widen (k := 0) (n := 0) (Nat.le_of_ble_eq_true rfl) (Nat.le_of_ble_eq_true rfl) ?_
  exact W.vret hx hb hr (fun t ht hW => ⟨⟨(fun i => [].getD i 0), rfl, trivial, by rw [ht]; exact hP, va_K.moved hW.alike hK, hD⟩, hS.F ht⟩) hS.2.2 dX3_init_14
set_option maxHeartbeats 4000000 in
set_option maxRecDepth 100000 in
theorem n_X7 (l : Launch) (D : va_G) (cA : Nat → ClassId) (h0 : Nat) (sz : Nat) : Met l yX7_init (wsM MX7_init) ({ frames := 2, cells := 5, slots := 152, locals := 40 }) (va_Pc [.ref h0] (fun U => U.heap.size = sz ∧ va_P D vwCl [(h0, .inr (7, [.null, .null, .null, .null, .null, .int (nI 0), .int (nI 0), .int (nI 0)]))] U.heap ∧ va_K D vwCl (tyl cA) U ∧ va_D (fun _ => True) [(h0, .inr (7, [.null, .null, .null, .null, .null, .int (nI 0), .int (nI 0), .int (nI 0)]))])) (va_Qv (fun _ : Nat → Nat => True) (fun a t => va_P D vwCl [(h0, .inr (7, [.ref (a 0), .ref (a 1), .ref (a 2), .ref (a 3), .ref (a 4), .int (nI 0), .int (nI 0), .int (nI 0)])), ((a 0), .inl (cA 0, 4, .inl (fun _ => nI 0))), ((a 1), .inl (cA 0, 4, .inl (fun _ => nI 0))), ((a 2), .inl (cA 3, 96, .inr (.inl (fun _ => lN 0)))), ((a 3), .inl (cA 1, 24, .inl (fun _ => nI 0))), ((a 4), .inl (cA 3, 24, .inr (.inl (fun _ => lN 0))))] t.heap ∧ va_K D vwCl (tyl cA) t ∧ va_D (va_A [(h0, .inr (7, [.null, .null, .null, .null, .null, .int (nI 0), .int (nI 0), .int (nI 0)]))] sz) [(h0, .inr (7, [.ref (a 0), .ref (a 1), .ref (a 2), .ref (a 3), .ref (a 4), .int (nI 0), .int (nI 0), .int (nI 0)])), ((a 0), .inl (cA 0, 4, .inl (fun _ => nI 0))), ((a 1), .inl (cA 0, 4, .inl (fun _ => nI 0))), ((a 2), .inl (cA 3, 96, .inr (.inl (fun _ => lN 0)))), ((a 3), .inl (cA 1, 24, .inl (fun _ => nI 0))), ((a 4), .inl (cA 3, 24, .inr (.inl (fun _ => lN 0))))]) (va_A [(h0, .inr (7, [.null, .null, .null, .null, .null, .int (nI 0), .int (nI 0), .int (nI 0)]))] sz)) 5 152 (va_A [(h0, .inr (7, [.null, .null, .null, .null, .null, .int (nI 0), .int (nI 0), .int (nI 0)]))] sz) := by
  refine Met.ofW (cc := cX7_init) (maxL := 1) (ret := none) (by decide) rfl ?_
  intro p e s m args below meth c s₁ B hml hv
  obtain ⟨rfl, hsz, hP, hK, hD0⟩ := hv
  have hx := B.exec
  have hb := B.bytes
  have hr := B.returns
  have hts : ∀ w ∈ wT, w.before _ s = true := fun w hw => atoms_spec (ws := wsM MX7_init) B.pre w (List.mem_cons_of_mem _ hw)
  have hown : s.vm.findClass RX7 = some m.cls := findClass_of_methodNamed B.named
  have hin : meth.name = "<init>" := (name_of_methodNamed B.named B.method).1
  subst hsz
  have hD := hD0.self (sz := s.heap.size)
  generalize hAe : va_A [(h0, .inr (7, [.null, .null, .null, .null, .null, .int (nI 0), .int (nI 0), .int (nI 0)]))] s.heap.size = A at hD ⊢
  have hA : ∀ q : Nat, s.heap.size ≤ q → A q := fun q h => by rw [← hAe]; exact Or.inr h
  have hS : va_S A s.heap s.heap [] := va_S.rf
  have hP : va_P D vwCl [(h0, .inr (7, [.null, .null, .null, .null, .null, .int (nI 0), .int (nI 0), .int (nI 0)]))] s.heap := hP
  have hl := lv_entry ([.ref h0]) (n := 1) (Nat.le_of_ble_eq_true rfl)
  rw [lg_entry_eq]
  generalize (lg_sl ([.ref h0]) ++ List.replicate (1 - (lg_sl ([.ref h0])).length) Slot.unset).toArray = ls at hl ⊢
  have hl : lv_has ls 1 [(0, .ref h0)] := hl
  refine lv_aload_n hx hb dX7_init_0 rfl (lv_at hl 0 rfl) ?_
  refine W.objInit hx hb hown (hts _ oi_X7) (hts _ wd_oim) (hts _ wd_oic) rfl (by rw [hml]; exact hl.1) rfl dX7_init_1 (Nat.le_of_ble_eq_true rfl) (Nat.le_of_ble_eq_true rfl) ?_
  refine W.eq (g2 := F0 m 4 ls []) rfl ?_
  refine lv_aload_n hx hb dX7_init_4 rfl (lv_at hl 0 rfl) ?_
  refine lv_iconst (v := nI 4) hx hb dX7_init_5 (by decide) ?_
  refine vn_i (N := 4) hx hb hts hK hP hD hS hA (Nat.le_of_ble_eq_true rfl) (Nat.le_of_ble_eq_true rfl) (Nat.le_of_ble_eq_true rfl) dX7_init_6 (fun q1 H hP hD hS => ?_)
  have hP : va_P D vwCl [(h0, .inr (7, [.null, .null, .null, .null, .null, .int (nI 0), .int (nI 0), .int (nI 0)])), (q1, .inl (cA 0, 4, .inl (fun _ => nI 0)))] H := hP
  have hD : va_D A [(h0, .inr (7, [.null, .null, .null, .null, .null, .int (nI 0), .int (nI 0), .int (nI 0)])), (q1, .inl (cA 0, 4, .inl (fun _ => nI 0)))] := hD
  refine va_putF (D := D) (cl := vwCl) (ci := 7) (v := .ref q1) (ty := (.array .int)) (C := RX7) (T := TX7) (N := 8) hx hb hts iX7 tyX7 tyX7_ok nmX7 hown hK hP hD hS 0 rfl rfl 0 (by decide) (hts _ fl_X7_9) (fun _ h9 => h9) rfl hin rfl (by decide +kernel) rfl rfl (Nat.le_of_ble_eq_true rfl) dX7_init_8 (fun H locs hP hD hS => ?_)
  have hP : va_P D vwCl [(h0, .inr (7, [.ref q1, .null, .null, .null, .null, .int (nI 0), .int (nI 0), .int (nI 0)])), (q1, .inl (cA 0, 4, .inl (fun _ => nI 0)))] H := hP
  have hD : va_D A [(h0, .inr (7, [.ref q1, .null, .null, .null, .null, .int (nI 0), .int (nI 0), .int (nI 0)])), (q1, .inl (cA 0, 4, .inl (fun _ => nI 0)))] := hD
  refine lv_aload_n hx hb dX7_init_11 rfl (lv_at hl 0 rfl) ?_
  refine lv_iconst (v := nI 4) hx hb dX7_init_12 (by decide) ?_
  refine vn_i (N := 4) hx hb hts hK hP hD hS hA (Nat.le_of_ble_eq_true rfl) (Nat.le_of_ble_eq_true rfl) (Nat.le_of_ble_eq_true rfl) dX7_init_13 (fun q2 H hP hD hS => ?_)
  have hP : va_P D vwCl [(h0, .inr (7, [.ref q1, .null, .null, .null, .null, .int (nI 0), .int (nI 0), .int (nI 0)])), (q1, .inl (cA 0, 4, .inl (fun _ => nI 0))), (q2, .inl (cA 0, 4, .inl (fun _ => nI 0)))] H := hP
  have hD : va_D A [(h0, .inr (7, [.ref q1, .null, .null, .null, .null, .int (nI 0), .int (nI 0), .int (nI 0)])), (q1, .inl (cA 0, 4, .inl (fun _ => nI 0))), (q2, .inl (cA 0, 4, .inl (fun _ => nI 0)))] := hD
  refine va_putF (D := D) (cl := vwCl) (ci := 7) (v := .ref q2) (ty := (.array .int)) (C := RX7) (T := TX7) (N := 8) hx hb hts iX7 tyX7 tyX7_ok nmX7 hown hK hP hD hS 0 rfl rfl 1 (by decide) (hts _ fl_X7_15) (fun _ h9 => h9) rfl hin rfl (by decide +kernel) rfl rfl (Nat.le_of_ble_eq_true rfl) dX7_init_15 (fun H locs hP hD hS => ?_)
  have hP : va_P D vwCl [(h0, .inr (7, [.ref q1, .ref q2, .null, .null, .null, .int (nI 0), .int (nI 0), .int (nI 0)])), (q1, .inl (cA 0, 4, .inl (fun _ => nI 0))), (q2, .inl (cA 0, 4, .inl (fun _ => nI 0)))] H := hP
  have hD : va_D A [(h0, .inr (7, [.ref q1, .ref q2, .null, .null, .null, .int (nI 0), .int (nI 0), .int (nI 0)])), (q1, .inl (cA 0, 4, .inl (fun _ => nI 0))), (q2, .inl (cA 0, 4, .inl (fun _ => nI 0)))] := hD
  refine lv_aload_n hx hb dX7_init_18 rfl (lv_at hl 0 rfl) ?_
  refine lv_bipush (v := nI 96) hx hb dX7_init_19 (by decide) ?_
  refine vn_l (N := 96) hx hb hts hK hP hD hS hA (Nat.le_of_ble_eq_true rfl) (Nat.le_of_ble_eq_true rfl) (Nat.le_of_ble_eq_true rfl) dX7_init_21 (fun q3 H hP hD hS => ?_)
  have hP : va_P D vwCl [(h0, .inr (7, [.ref q1, .ref q2, .null, .null, .null, .int (nI 0), .int (nI 0), .int (nI 0)])), (q1, .inl (cA 0, 4, .inl (fun _ => nI 0))), (q2, .inl (cA 0, 4, .inl (fun _ => nI 0))), (q3, .inl (cA 3, 96, .inr (.inl (fun _ => lN 0))))] H := hP
  have hD : va_D A [(h0, .inr (7, [.ref q1, .ref q2, .null, .null, .null, .int (nI 0), .int (nI 0), .int (nI 0)])), (q1, .inl (cA 0, 4, .inl (fun _ => nI 0))), (q2, .inl (cA 0, 4, .inl (fun _ => nI 0))), (q3, .inl (cA 3, 96, .inr (.inl (fun _ => lN 0))))] := hD
  refine va_putF (D := D) (cl := vwCl) (ci := 7) (v := .ref q3) (ty := (.array .long)) (C := RX7) (T := TX7) (N := 8) hx hb hts iX7 tyX7 tyX7_ok nmX7 hown hK hP hD hS 0 rfl rfl 2 (by decide) (hts _ fl_X7_18) (fun _ h9 => h9) rfl hin rfl (by decide +kernel) rfl rfl (Nat.le_of_ble_eq_true rfl) dX7_init_23 (fun H locs hP hD hS => ?_)
  have hP : va_P D vwCl [(h0, .inr (7, [.ref q1, .ref q2, .ref q3, .null, .null, .int (nI 0), .int (nI 0), .int (nI 0)])), (q1, .inl (cA 0, 4, .inl (fun _ => nI 0))), (q2, .inl (cA 0, 4, .inl (fun _ => nI 0))), (q3, .inl (cA 3, 96, .inr (.inl (fun _ => lN 0))))] H := hP
  have hD : va_D A [(h0, .inr (7, [.ref q1, .ref q2, .ref q3, .null, .null, .int (nI 0), .int (nI 0), .int (nI 0)])), (q1, .inl (cA 0, 4, .inl (fun _ => nI 0))), (q2, .inl (cA 0, 4, .inl (fun _ => nI 0))), (q3, .inl (cA 3, 96, .inr (.inl (fun _ => lN 0))))] := hD
  refine lv_aload_n hx hb dX7_init_26 rfl (lv_at hl 0 rfl) ?_
  refine lv_bipush (v := nI 24) hx hb dX7_init_27 (by decide) ?_
  refine vn_z (N := 24) hx hb hts hK hP hD hS hA (Nat.le_of_ble_eq_true rfl) (Nat.le_of_ble_eq_true rfl) (Nat.le_of_ble_eq_true rfl) dX7_init_29 (fun q4 H hP hD hS => ?_)
  have hP : va_P D vwCl [(h0, .inr (7, [.ref q1, .ref q2, .ref q3, .null, .null, .int (nI 0), .int (nI 0), .int (nI 0)])), (q1, .inl (cA 0, 4, .inl (fun _ => nI 0))), (q2, .inl (cA 0, 4, .inl (fun _ => nI 0))), (q3, .inl (cA 3, 96, .inr (.inl (fun _ => lN 0)))), (q4, .inl (cA 1, 24, .inl (fun _ => nI 0)))] H := hP
  have hD : va_D A [(h0, .inr (7, [.ref q1, .ref q2, .ref q3, .null, .null, .int (nI 0), .int (nI 0), .int (nI 0)])), (q1, .inl (cA 0, 4, .inl (fun _ => nI 0))), (q2, .inl (cA 0, 4, .inl (fun _ => nI 0))), (q3, .inl (cA 3, 96, .inr (.inl (fun _ => lN 0)))), (q4, .inl (cA 1, 24, .inl (fun _ => nI 0)))] := hD
  refine va_putF (D := D) (cl := vwCl) (ci := 7) (v := .ref q4) (ty := (.array .boolean)) (C := RX7) (T := TX7) (N := 8) hx hb hts iX7 tyX7 tyX7_ok nmX7 hown hK hP hD hS 0 rfl rfl 3 (by decide) (hts _ fl_X7_22) (fun _ h9 => h9) rfl hin rfl (by decide +kernel) rfl rfl (Nat.le_of_ble_eq_true rfl) dX7_init_31 (fun H locs hP hD hS => ?_)
  have hP : va_P D vwCl [(h0, .inr (7, [.ref q1, .ref q2, .ref q3, .ref q4, .null, .int (nI 0), .int (nI 0), .int (nI 0)])), (q1, .inl (cA 0, 4, .inl (fun _ => nI 0))), (q2, .inl (cA 0, 4, .inl (fun _ => nI 0))), (q3, .inl (cA 3, 96, .inr (.inl (fun _ => lN 0)))), (q4, .inl (cA 1, 24, .inl (fun _ => nI 0)))] H := hP
  have hD : va_D A [(h0, .inr (7, [.ref q1, .ref q2, .ref q3, .ref q4, .null, .int (nI 0), .int (nI 0), .int (nI 0)])), (q1, .inl (cA 0, 4, .inl (fun _ => nI 0))), (q2, .inl (cA 0, 4, .inl (fun _ => nI 0))), (q3, .inl (cA 3, 96, .inr (.inl (fun _ => lN 0)))), (q4, .inl (cA 1, 24, .inl (fun _ => nI 0)))] := hD
  refine lv_aload_n hx hb dX7_init_34 rfl (lv_at hl 0 rfl) ?_
  refine lv_bipush (v := nI 24) hx hb dX7_init_35 (by decide) ?_
  refine vn_l (N := 24) hx hb hts hK hP hD hS hA (Nat.le_of_ble_eq_true rfl) (Nat.le_of_ble_eq_true rfl) (Nat.le_of_ble_eq_true rfl) dX7_init_37 (fun q5 H hP hD hS => ?_)
  have hP : va_P D vwCl [(h0, .inr (7, [.ref q1, .ref q2, .ref q3, .ref q4, .null, .int (nI 0), .int (nI 0), .int (nI 0)])), (q1, .inl (cA 0, 4, .inl (fun _ => nI 0))), (q2, .inl (cA 0, 4, .inl (fun _ => nI 0))), (q3, .inl (cA 3, 96, .inr (.inl (fun _ => lN 0)))), (q4, .inl (cA 1, 24, .inl (fun _ => nI 0))), (q5, .inl (cA 3, 24, .inr (.inl (fun _ => lN 0))))] H := hP
  have hD : va_D A [(h0, .inr (7, [.ref q1, .ref q2, .ref q3, .ref q4, .null, .int (nI 0), .int (nI 0), .int (nI 0)])), (q1, .inl (cA 0, 4, .inl (fun _ => nI 0))), (q2, .inl (cA 0, 4, .inl (fun _ => nI 0))), (q3, .inl (cA 3, 96, .inr (.inl (fun _ => lN 0)))), (q4, .inl (cA 1, 24, .inl (fun _ => nI 0))), (q5, .inl (cA 3, 24, .inr (.inl (fun _ => lN 0))))] := hD
  refine va_putF (D := D) (cl := vwCl) (ci := 7) (v := .ref q5) (ty := (.array .long)) (C := RX7) (T := TX7) (N := 8) hx hb hts iX7 tyX7 tyX7_ok nmX7 hown hK hP hD hS 0 rfl rfl 4 (by decide) (hts _ fl_X7_26) (fun _ h9 => h9) rfl hin rfl (by decide +kernel) rfl rfl (Nat.le_of_ble_eq_true rfl) dX7_init_39 (fun H locs hP hD hS => ?_)
  have hP : va_P D vwCl [(h0, .inr (7, [.ref q1, .ref q2, .ref q3, .ref q4, .ref q5, .int (nI 0), .int (nI 0), .int (nI 0)])), (q1, .inl (cA 0, 4, .inl (fun _ => nI 0))), (q2, .inl (cA 0, 4, .inl (fun _ => nI 0))), (q3, .inl (cA 3, 96, .inr (.inl (fun _ => lN 0)))), (q4, .inl (cA 1, 24, .inl (fun _ => nI 0))), (q5, .inl (cA 3, 24, .inr (.inl (fun _ => lN 0))))] H := hP
  have hD : va_D A [(h0, .inr (7, [.ref q1, .ref q2, .ref q3, .ref q4, .ref q5, .int (nI 0), .int (nI 0), .int (nI 0)])), (q1, .inl (cA 0, 4, .inl (fun _ => nI 0))), (q2, .inl (cA 0, 4, .inl (fun _ => nI 0))), (q3, .inl (cA 3, 96, .inr (.inl (fun _ => lN 0)))), (q4, .inl (cA 1, 24, .inl (fun _ => nI 0))), (q5, .inl (cA 3, 24, .inr (.inl (fun _ => lN 0))))] := hD
  refine lv_aload_n hx hb dX7_init_42 rfl (lv_at hl 0 rfl) ?_
  refine lv_iconst (v := nI 0) hx hb dX7_init_43 (by decide) ?_
  refine va_put (D := D) (cl := vwCl) (ci := 7) (v := .int (nI 0)) (ty := .int) (C := RX7) (T := TX7) (N := 8) hx hb hts iX7 tyX7 tyX7_ok nmX7 hown hK hP hD hS 0 rfl rfl 5 (by decide) (hts _ fl_X7_29) (fun _ h9 => h9) rfl (by decide +kernel) rfl rfl (Nat.le_of_ble_eq_true rfl) dX7_init_44 (fun H locs hP hD hS => ?_)
  have hP : va_P D vwCl [(h0, .inr (7, [.ref q1, .ref q2, .ref q3, .ref q4, .ref q5, .int (nI 0), .int (nI 0), .int (nI 0)])), (q1, .inl (cA 0, 4, .inl (fun _ => nI 0))), (q2, .inl (cA 0, 4, .inl (fun _ => nI 0))), (q3, .inl (cA 3, 96, .inr (.inl (fun _ => lN 0)))), (q4, .inl (cA 1, 24, .inl (fun _ => nI 0))), (q5, .inl (cA 3, 24, .inr (.inl (fun _ => lN 0))))] H := hP
  have hD : va_D A [(h0, .inr (7, [.ref q1, .ref q2, .ref q3, .ref q4, .ref q5, .int (nI 0), .int (nI 0), .int (nI 0)])), (q1, .inl (cA 0, 4, .inl (fun _ => nI 0))), (q2, .inl (cA 0, 4, .inl (fun _ => nI 0))), (q3, .inl (cA 3, 96, .inr (.inl (fun _ => lN 0)))), (q4, .inl (cA 1, 24, .inl (fun _ => nI 0))), (q5, .inl (cA 3, 24, .inr (.inl (fun _ => lN 0))))] := hD
  refine lv_aload_n hx hb dX7_init_47 rfl (lv_at hl 0 rfl) ?_
  refine lv_iconst (v := nI 0) hx hb dX7_init_48 (by decide) ?_
  refine va_put (D := D) (cl := vwCl) (ci := 7) (v := .int (nI 0)) (ty := .int) (C := RX7) (T := TX7) (N := 8) hx hb hts iX7 tyX7 tyX7_ok nmX7 hown hK hP hD hS 0 rfl rfl 6 (by decide) (hts _ fl_X7_33) (fun _ h9 => h9) rfl (by decide +kernel) rfl rfl (Nat.le_of_ble_eq_true rfl) dX7_init_49 (fun H locs hP hD hS => ?_)
  have hP : va_P D vwCl [(h0, .inr (7, [.ref q1, .ref q2, .ref q3, .ref q4, .ref q5, .int (nI 0), .int (nI 0), .int (nI 0)])), (q1, .inl (cA 0, 4, .inl (fun _ => nI 0))), (q2, .inl (cA 0, 4, .inl (fun _ => nI 0))), (q3, .inl (cA 3, 96, .inr (.inl (fun _ => lN 0)))), (q4, .inl (cA 1, 24, .inl (fun _ => nI 0))), (q5, .inl (cA 3, 24, .inr (.inl (fun _ => lN 0))))] H := hP
  have hD : va_D A [(h0, .inr (7, [.ref q1, .ref q2, .ref q3, .ref q4, .ref q5, .int (nI 0), .int (nI 0), .int (nI 0)])), (q1, .inl (cA 0, 4, .inl (fun _ => nI 0))), (q2, .inl (cA 0, 4, .inl (fun _ => nI 0))), (q3, .inl (cA 3, 96, .inr (.inl (fun _ => lN 0)))), (q4, .inl (cA 1, 24, .inl (fun _ => nI 0))), (q5, .inl (cA 3, 24, .inr (.inl (fun _ => lN 0))))] := hD
  refine lv_aload_n hx hb dX7_init_52 rfl (lv_at hl 0 rfl) ?_
  refine lv_iconst (v := nI 0) hx hb dX7_init_53 (by decide) ?_
  refine va_put (D := D) (cl := vwCl) (ci := 7) (v := .int (nI 0)) (ty := .int) (C := RX7) (T := TX7) (N := 8) hx hb hts iX7 tyX7 tyX7_ok nmX7 hown hK hP hD hS 0 rfl rfl 7 (by decide) (hts _ fl_X7_36) (fun _ h9 => h9) rfl (by decide +kernel) rfl rfl (Nat.le_of_ble_eq_true rfl) dX7_init_54 (fun H locs hP hD hS => ?_)
  have hP : va_P D vwCl [(h0, .inr (7, [.ref q1, .ref q2, .ref q3, .ref q4, .ref q5, .int (nI 0), .int (nI 0), .int (nI 0)])), (q1, .inl (cA 0, 4, .inl (fun _ => nI 0))), (q2, .inl (cA 0, 4, .inl (fun _ => nI 0))), (q3, .inl (cA 3, 96, .inr (.inl (fun _ => lN 0)))), (q4, .inl (cA 1, 24, .inl (fun _ => nI 0))), (q5, .inl (cA 3, 24, .inr (.inl (fun _ => lN 0))))] H := hP
  have hD : va_D A [(h0, .inr (7, [.ref q1, .ref q2, .ref q3, .ref q4, .ref q5, .int (nI 0), .int (nI 0), .int (nI 0)])), (q1, .inl (cA 0, 4, .inl (fun _ => nI 0))), (q2, .inl (cA 0, 4, .inl (fun _ => nI 0))), (q3, .inl (cA 3, 96, .inr (.inl (fun _ => lN 0)))), (q4, .inl (cA 1, 24, .inl (fun _ => nI 0))), (q5, .inl (cA 3, 24, .inr (.inl (fun _ => lN 0))))] := hD
  refine W.widen (k := 5) (n := 152) (Nat.le_of_ble_eq_true rfl) (Nat.le_of_ble_eq_true rfl) ?_
  exact W.vret hx hb hr (fun t ht hW => ⟨⟨(fun i => [q1, q2, q3, q4, q5].getD i 0), rfl, trivial, by rw [ht]; exact hP, va_K.moved hW.alike hK, hD⟩, hS.F ht⟩) hS.2.2 dX7_init_57
set_option maxHeartbeats 4000000 in
set_option maxRecDepth 100000 in
theorem n_X5 (l : Launch) (D : va_G) (cA : Nat → ClassId) (h0 : Nat) (sz : Nat) : Met l yX5_init (wsM MX5_init) ({ frames := 2, cells := 3, slots := 3456, locals := 40 }) (va_Pc [.ref h0] (fun U => U.heap.size = sz ∧ va_P D vwCl [(h0, .inr (5, [.null, .null, .null, .int (nI 0), .int (nI 0)]))] U.heap ∧ va_K D vwCl (tyl cA) U ∧ va_D (fun _ => True) [(h0, .inr (5, [.null, .null, .null, .int (nI 0), .int (nI 0)]))])) (va_Qv (fun _ : Nat → Nat => True) (fun a t => va_P D vwCl [(h0, .inr (5, [.ref (a 0), .ref (a 1), .ref (a 2), .int (nI 0), .int (nI 0)])), ((a 0), .inl (cA 3, 2304, .inr (.inl (fun _ => lN 0)))), ((a 1), .inl (cA 0, 576, .inl (fun _ => nI 0))), ((a 2), .inl (cA 0, 576, .inl (fun _ => nI 0)))] t.heap ∧ va_K D vwCl (tyl cA) t ∧ va_D (va_A [(h0, .inr (5, [.null, .null, .null, .int (nI 0), .int (nI 0)]))] sz) [(h0, .inr (5, [.ref (a 0), .ref (a 1), .ref (a 2), .int (nI 0), .int (nI 0)])), ((a 0), .inl (cA 3, 2304, .inr (.inl (fun _ => lN 0)))), ((a 1), .inl (cA 0, 576, .inl (fun _ => nI 0))), ((a 2), .inl (cA 0, 576, .inl (fun _ => nI 0)))]) (va_A [(h0, .inr (5, [.null, .null, .null, .int (nI 0), .int (nI 0)]))] sz)) 3 3456 (va_A [(h0, .inr (5, [.null, .null, .null, .int (nI 0), .int (nI 0)]))] sz) := by
  refine Met.ofW (cc := cX5_init) (maxL := 1) (ret := none) (by decide) rfl ?_
  intro p e s m args below meth c s₁ B hml hv
  obtain ⟨rfl, hsz, hP, hK, hD0⟩ := hv
  have hx := B.exec
  have hb := B.bytes
  have hr := B.returns
  have hts : ∀ w ∈ wT, w.before _ s = true := fun w hw => atoms_spec (ws := wsM MX5_init) B.pre w (List.mem_cons_of_mem _ hw)
  have hown : s.vm.findClass RX5 = some m.cls := findClass_of_methodNamed B.named
  have hin : meth.name = "<init>" := (name_of_methodNamed B.named B.method).1
  subst hsz
  have hD := hD0.self (sz := s.heap.size)
  generalize hAe : va_A [(h0, .inr (5, [.null, .null, .null, .int (nI 0), .int (nI 0)]))] s.heap.size = A at hD ⊢
  have hA : ∀ q : Nat, s.heap.size ≤ q → A q := fun q h => by rw [← hAe]; exact Or.inr h
  have hS : va_S A s.heap s.heap [] := va_S.rf
  have hP : va_P D vwCl [(h0, .inr (5, [.null, .null, .null, .int (nI 0), .int (nI 0)]))] s.heap := hP
  have hl := lv_entry ([.ref h0]) (n := 1) (Nat.le_of_ble_eq_true rfl)
  rw [lg_entry_eq]
  generalize (lg_sl ([.ref h0]) ++ List.replicate (1 - (lg_sl ([.ref h0])).length) Slot.unset).toArray = ls at hl ⊢
  have hl : lv_has ls 1 [(0, .ref h0)] := hl
  refine lv_aload_n hx hb dX5_init_0 rfl (lv_at hl 0 rfl) ?_
  refine W.objInit hx hb hown (hts _ oi_X5) (hts _ wd_oim) (hts _ wd_oic) rfl (by rw [hml]; exact hl.1) rfl dX5_init_1 (Nat.le_of_ble_eq_true rfl) (Nat.le_of_ble_eq_true rfl) ?_
  refine W.eq (g2 := F0 m 4 ls []) rfl ?_
  refine lv_aload_n hx hb dX5_init_4 rfl (lv_at hl 0 rfl) ?_
  refine lv_sipush (v := nI 2304) hx hb dX5_init_5 (by decide) ?_
  refine vn_l (N := 2304) hx hb hts hK hP hD hS hA (Nat.le_of_ble_eq_true rfl) (Nat.le_of_ble_eq_true rfl) (Nat.le_of_ble_eq_true rfl) dX5_init_8 (fun q1 H hP hD hS => ?_)
  have hP : va_P D vwCl [(h0, .inr (5, [.null, .null, .null, .int (nI 0), .int (nI 0)])), (q1, .inl (cA 3, 2304, .inr (.inl (fun _ => lN 0))))] H := hP
  have hD : va_D A [(h0, .inr (5, [.null, .null, .null, .int (nI 0), .int (nI 0)])), (q1, .inl (cA 3, 2304, .inr (.inl (fun _ => lN 0))))] := hD
  refine va_putF (D := D) (cl := vwCl) (ci := 5) (v := .ref q1) (ty := (.array .long)) (C := RX5) (T := TX5) (N := 5) hx hb hts iX5 tyX5 tyX5_ok nmX5 hown hK hP hD hS 0 rfl rfl 0 (by decide) (hts _ fl_X5_9) (fun _ h9 => h9) rfl hin rfl (by decide +kernel) rfl rfl (Nat.le_of_ble_eq_true rfl) dX5_init_10 (fun H locs hP hD hS => ?_)
  have hP : va_P D vwCl [(h0, .inr (5, [.ref q1, .null, .null, .int (nI 0), .int (nI 0)])), (q1, .inl (cA 3, 2304, .inr (.inl (fun _ => lN 0))))] H := hP
  have hD : va_D A [(h0, .inr (5, [.ref q1, .null, .null, .int (nI 0), .int (nI 0)])), (q1, .inl (cA 3, 2304, .inr (.inl (fun _ => lN 0))))] := hD
  refine lv_aload_n hx hb dX5_init_13 rfl (lv_at hl 0 rfl) ?_
  refine lv_sipush (v := nI 576) hx hb dX5_init_14 (by decide) ?_
  refine vn_i (N := 576) hx hb hts hK hP hD hS hA (Nat.le_of_ble_eq_true rfl) (Nat.le_of_ble_eq_true rfl) (Nat.le_of_ble_eq_true rfl) dX5_init_17 (fun q2 H hP hD hS => ?_)
  have hP : va_P D vwCl [(h0, .inr (5, [.ref q1, .null, .null, .int (nI 0), .int (nI 0)])), (q1, .inl (cA 3, 2304, .inr (.inl (fun _ => lN 0)))), (q2, .inl (cA 0, 576, .inl (fun _ => nI 0)))] H := hP
  have hD : va_D A [(h0, .inr (5, [.ref q1, .null, .null, .int (nI 0), .int (nI 0)])), (q1, .inl (cA 3, 2304, .inr (.inl (fun _ => lN 0)))), (q2, .inl (cA 0, 576, .inl (fun _ => nI 0)))] := hD
  refine va_putF (D := D) (cl := vwCl) (ci := 5) (v := .ref q2) (ty := (.array .int)) (C := RX5) (T := TX5) (N := 5) hx hb hts iX5 tyX5 tyX5_ok nmX5 hown hK hP hD hS 0 rfl rfl 1 (by decide) (hts _ fl_X5_15) (fun _ h9 => h9) rfl hin rfl (by decide +kernel) rfl rfl (Nat.le_of_ble_eq_true rfl) dX5_init_19 (fun H locs hP hD hS => ?_)
  have hP : va_P D vwCl [(h0, .inr (5, [.ref q1, .ref q2, .null, .int (nI 0), .int (nI 0)])), (q1, .inl (cA 3, 2304, .inr (.inl (fun _ => lN 0)))), (q2, .inl (cA 0, 576, .inl (fun _ => nI 0)))] H := hP
  have hD : va_D A [(h0, .inr (5, [.ref q1, .ref q2, .null, .int (nI 0), .int (nI 0)])), (q1, .inl (cA 3, 2304, .inr (.inl (fun _ => lN 0)))), (q2, .inl (cA 0, 576, .inl (fun _ => nI 0)))] := hD
  refine lv_aload_n hx hb dX5_init_22 rfl (lv_at hl 0 rfl) ?_
  refine lv_sipush (v := nI 576) hx hb dX5_init_23 (by decide) ?_
  refine vn_i (N := 576) hx hb hts hK hP hD hS hA (Nat.le_of_ble_eq_true rfl) (Nat.le_of_ble_eq_true rfl) (Nat.le_of_ble_eq_true rfl) dX5_init_26 (fun q3 H hP hD hS => ?_)
  have hP : va_P D vwCl [(h0, .inr (5, [.ref q1, .ref q2, .null, .int (nI 0), .int (nI 0)])), (q1, .inl (cA 3, 2304, .inr (.inl (fun _ => lN 0)))), (q2, .inl (cA 0, 576, .inl (fun _ => nI 0))), (q3, .inl (cA 0, 576, .inl (fun _ => nI 0)))] H := hP
  have hD : va_D A [(h0, .inr (5, [.ref q1, .ref q2, .null, .int (nI 0), .int (nI 0)])), (q1, .inl (cA 3, 2304, .inr (.inl (fun _ => lN 0)))), (q2, .inl (cA 0, 576, .inl (fun _ => nI 0))), (q3, .inl (cA 0, 576, .inl (fun _ => nI 0)))] := hD
  refine va_putF (D := D) (cl := vwCl) (ci := 5) (v := .ref q3) (ty := (.array .int)) (C := RX5) (T := TX5) (N := 5) hx hb hts iX5 tyX5 tyX5_ok nmX5 hown hK hP hD hS 0 rfl rfl 2 (by decide) (hts _ fl_X5_19) (fun _ h9 => h9) rfl hin rfl (by decide +kernel) rfl rfl (Nat.le_of_ble_eq_true rfl) dX5_init_28 (fun H locs hP hD hS => ?_)
  have hP : va_P D vwCl [(h0, .inr (5, [.ref q1, .ref q2, .ref q3, .int (nI 0), .int (nI 0)])), (q1, .inl (cA 3, 2304, .inr (.inl (fun _ => lN 0)))), (q2, .inl (cA 0, 576, .inl (fun _ => nI 0))), (q3, .inl (cA 0, 576, .inl (fun _ => nI 0)))] H := hP
  have hD : va_D A [(h0, .inr (5, [.ref q1, .ref q2, .ref q3, .int (nI 0), .int (nI 0)])), (q1, .inl (cA 3, 2304, .inr (.inl (fun _ => lN 0)))), (q2, .inl (cA 0, 576, .inl (fun _ => nI 0))), (q3, .inl (cA 0, 576, .inl (fun _ => nI 0)))] := hD
  refine lv_aload_n hx hb dX5_init_31 rfl (lv_at hl 0 rfl) ?_
  refine lv_iconst (v := nI 0) hx hb dX5_init_32 (by decide) ?_
  refine va_put (D := D) (cl := vwCl) (ci := 5) (v := .int (nI 0)) (ty := .int) (C := RX5) (T := TX5) (N := 5) hx hb hts iX5 tyX5 tyX5_ok nmX5 hown hK hP hD hS 0 rfl rfl 3 (by decide) (hts _ fl_X5_22) (fun _ h9 => h9) rfl (by decide +kernel) rfl rfl (Nat.le_of_ble_eq_true rfl) dX5_init_33 (fun H locs hP hD hS => ?_)
  have hP : va_P D vwCl [(h0, .inr (5, [.ref q1, .ref q2, .ref q3, .int (nI 0), .int (nI 0)])), (q1, .inl (cA 3, 2304, .inr (.inl (fun _ => lN 0)))), (q2, .inl (cA 0, 576, .inl (fun _ => nI 0))), (q3, .inl (cA 0, 576, .inl (fun _ => nI 0)))] H := hP
  have hD : va_D A [(h0, .inr (5, [.ref q1, .ref q2, .ref q3, .int (nI 0), .int (nI 0)])), (q1, .inl (cA 3, 2304, .inr (.inl (fun _ => lN 0)))), (q2, .inl (cA 0, 576, .inl (fun _ => nI 0))), (q3, .inl (cA 0, 576, .inl (fun _ => nI 0)))] := hD
  refine lv_aload_n hx hb dX5_init_36 rfl (lv_at hl 0 rfl) ?_
  refine lv_iconst (v := nI 0) hx hb dX5_init_37 (by decide) ?_
  refine va_put (D := D) (cl := vwCl) (ci := 5) (v := .int (nI 0)) (ty := .int) (C := RX5) (T := TX5) (N := 5) hx hb hts iX5 tyX5 tyX5_ok nmX5 hown hK hP hD hS 0 rfl rfl 4 (by decide) (hts _ fl_X5_26) (fun _ h9 => h9) rfl (by decide +kernel) rfl rfl (Nat.le_of_ble_eq_true rfl) dX5_init_38 (fun H locs hP hD hS => ?_)
  have hP : va_P D vwCl [(h0, .inr (5, [.ref q1, .ref q2, .ref q3, .int (nI 0), .int (nI 0)])), (q1, .inl (cA 3, 2304, .inr (.inl (fun _ => lN 0)))), (q2, .inl (cA 0, 576, .inl (fun _ => nI 0))), (q3, .inl (cA 0, 576, .inl (fun _ => nI 0)))] H := hP
  have hD : va_D A [(h0, .inr (5, [.ref q1, .ref q2, .ref q3, .int (nI 0), .int (nI 0)])), (q1, .inl (cA 3, 2304, .inr (.inl (fun _ => lN 0)))), (q2, .inl (cA 0, 576, .inl (fun _ => nI 0))), (q3, .inl (cA 0, 576, .inl (fun _ => nI 0)))] := hD
  refine W.widen (k := 3) (n := 3456) (Nat.le_of_ble_eq_true rfl) (Nat.le_of_ble_eq_true rfl) ?_
  exact W.vret hx hb hr (fun t ht hW => ⟨⟨(fun i => [q1, q2, q3].getD i 0), rfl, trivial, by rw [ht]; exact hP, va_K.moved hW.alike hK, hD⟩, hS.F ht⟩) hS.2.2 dX5_init_41
set_option maxHeartbeats 4000000 in
set_option maxRecDepth 100000 in
theorem n_X1_clear (l : Launch) (D : va_G) (cA : Nat → ClassId) (h0 u1 u2 : Nat) (sz : Nat) : Met l yX1_clear (wsM MX1_clear) ({ frames := 0, cells := 0, slots := 0, locals := 0 }) (va_Pc [.ref h0] (fun U => U.heap.size = sz ∧ va_P D vwCl [(h0, .inr (1, [.ref u1, .ref u2, .int (nI 0)]))] U.heap ∧ va_K D vwCl (tyl cA) U ∧ va_D (fun _ => True) [(h0, .inr (1, [.ref u1, .ref u2, .int (nI 0)]))])) (va_Qv (fun _ : Nat → Nat => True) (fun a t => va_P D vwCl [(h0, .inr (1, [.ref u1, .ref u2, .int (nI 0)]))] t.heap ∧ va_K D vwCl (tyl cA) t ∧ va_D (va_A [(h0, .inr (1, [.ref u1, .ref u2, .int (nI 0)]))] sz) [(h0, .inr (1, [.ref u1, .ref u2, .int (nI 0)]))]) (va_A [(h0, .inr (1, [.ref u1, .ref u2, .int (nI 0)]))] sz)) 0 0 (va_A [(h0, .inr (1, [.ref u1, .ref u2, .int (nI 0)]))] sz) := by
  refine Met.ofW (cc := cX1_clear) (maxL := 1) (ret := none) (by decide) rfl ?_
  intro p e s m args below meth c s₁ B hml hv
  obtain ⟨rfl, hsz, hP, hK, hD0⟩ := hv
  have hx := B.exec
  have hb := B.bytes
  have hr := B.returns
  have hts : ∀ w ∈ wT, w.before _ s = true := fun w hw => atoms_spec (ws := wsM MX1_clear) B.pre w (List.mem_cons_of_mem _ hw)
  have hown : s.vm.findClass RX1 = some m.cls := findClass_of_methodNamed B.named
  have hin : meth.name = "clear" := (name_of_methodNamed B.named B.method).1
  subst hsz
  have hD := hD0.self (sz := s.heap.size)
  generalize hAe : va_A [(h0, .inr (1, [.ref u1, .ref u2, .int (nI 0)]))] s.heap.size = A at hD ⊢
  have hA : ∀ q : Nat, s.heap.size ≤ q → A q := fun q h => by rw [← hAe]; exact Or.inr h
  have hS : va_S A s.heap s.heap [] := va_S.rf
  have hP : va_P D vwCl [(h0, .inr (1, [.ref u1, .ref u2, .int (nI 0)]))] s.heap := hP
  have hl := lv_entry ([.ref h0]) (n := 1) (Nat.le_of_ble_eq_true rfl)
  rw [lg_entry_eq]
  generalize (lg_sl ([.ref h0]) ++ List.replicate (1 - (lg_sl ([.ref h0])).length) Slot.unset).toArray = ls at hl ⊢
  have hl : lv_has ls 1 [(0, .ref h0)] := hl
  refine lv_aload_n hx hb dX1_clear_0 rfl (lv_at hl 0 rfl) ?_
  refine lv_iconst (v := nI 0) hx hb dX1_clear_1 (by decide) ?_
  refine va_put (D := D) (cl := vwCl) (ci := 1) (v := .int (nI 0)) (ty := .int) (C := RX1) (T := TX1) (N := 3) hx hb hts iX1 tyX1 tyX1_ok nmX1 hown hK hP hD hS 0 rfl rfl 2 (by decide) (hts _ fl_X1_18) (fun _ h9 => h9) rfl (by decide +kernel) rfl rfl (Nat.le_of_ble_eq_true rfl) dX1_clear_2 (fun H locs hP hD hS => ?_)
  have hP : va_P D vwCl [(h0, .inr (1, [.ref u1, .ref u2, .int (nI 0)]))] H := hP
  have hD : va_D A [(h0, .inr (1, [.ref u1, .ref u2, .int (nI 0)]))] := hD
  refine W.widen (k := 0) (n := 0) (Nat.le_of_ble_eq_true rfl) (Nat.le_of_ble_eq_true rfl) ?_
  exact W.vret hx hb hr (fun t ht hW => ⟨⟨(fun i => [].getD i 0), rfl, trivial, by rw [ht]; exact hP, va_K.moved hW.alike hK, hD⟩, hS.F ht⟩) hS.2.2 dX1_clear_5
set_option maxHeartbeats 4000000 in
set_option maxRecDepth 100000 in
theorem n_X8_tableAt (l : Launch) (D : va_G) (cA : Nat → ClassId) (h0 ha t0 : Nat) (f : Nat → Option Nat) (sz : Nat) (hf0 : f 0 = some t0) : Met l yX8_tableAt (wsM MX8_tableAt) ({ frames := 0, cells := 0, slots := 0, locals := 0 }) (va_Pc [.ref h0, .int (nI 0)] (fun U => U.heap.size = sz ∧ va_P D vwCl [(h0, .inr (8, [.ref ha, .int (nI 0)])), (ha, .inl (cA 4, 4, .inr (.inr (.inr (.inr (f))))))] U.heap ∧ va_K D vwCl (tyl cA) U ∧ va_D (fun _ => True) [(h0, .inr (8, [.ref ha, .int (nI 0)])), (ha, .inl (cA 4, 4, .inr (.inr (.inr (.inr (f))))))])) (va_Qr (fun _ : Nat → Nat => True) (fun _ ra t => ra = t0 ∧ va_P D vwCl [(h0, .inr (8, [.ref ha, .int (nI 0)])), (ha, .inl (cA 4, 4, .inr (.inr (.inr (.inr (f))))))] t.heap ∧ va_K D vwCl (tyl cA) t ∧ va_D (va_A [(h0, .inr (8, [.ref ha, .int (nI 0)])), (ha, .inl (cA 4, 4, .inr (.inr (.inr (.inr (f))))))] sz) [(h0, .inr (8, [.ref ha, .int (nI 0)])), (ha, .inl (cA 4, 4, .inr (.inr (.inr (.inr (f))))))]) (va_A [(h0, .inr (8, [.ref ha, .int (nI 0)])), (ha, .inl (cA 4, 4, .inr (.inr (.inr (.inr (f))))))] sz)) 0 0 (va_A [(h0, .inr (8, [.ref ha, .int (nI 0)])), (ha, .inl (cA 4, 4, .inr (.inr (.inr (.inr (f))))))] sz) := by
  refine Met.ofW (cc := cX8_tableAt) (maxL := 2) (ret := (some (.object "QueryForge$Table"))) (by decide) rfl ?_
  intro p e s m args below meth c s₁ B hml hv
  obtain ⟨rfl, hsz, hP, hK, hD0⟩ := hv
  have hx := B.exec
  have hb := B.bytes
  have hr := B.returns
  have hts : ∀ w ∈ wT, w.before _ s = true := fun w hw => atoms_spec (ws := wsM MX8_tableAt) B.pre w (List.mem_cons_of_mem _ hw)
  have hown : s.vm.findClass RX8 = some m.cls := findClass_of_methodNamed B.named
  have hin : meth.name = "tableAt" := (name_of_methodNamed B.named B.method).1
  subst hsz
  have hD := hD0.self (sz := s.heap.size)
  generalize hAe : va_A [(h0, .inr (8, [.ref ha, .int (nI 0)])), (ha, .inl (cA 4, 4, .inr (.inr (.inr (.inr (f))))))] s.heap.size = A at hD ⊢
  have hA : ∀ q : Nat, s.heap.size ≤ q → A q := fun q h => by rw [← hAe]; exact Or.inr h
  have hS : va_S A s.heap s.heap [] := va_S.rf
  have hP : va_P D vwCl [(h0, .inr (8, [.ref ha, .int (nI 0)])), (ha, .inl (cA 4, 4, .inr (.inr (.inr (.inr (f))))))] s.heap := hP
  have hl := lv_entry ([.ref h0, .int (nI 0)]) (n := 2) (Nat.le_of_ble_eq_true rfl)
  rw [lg_entry_eq]
  generalize (lg_sl ([.ref h0, .int (nI 0)]) ++ List.replicate (2 - (lg_sl ([.ref h0, .int (nI 0)])).length) Slot.unset).toArray = ls at hl ⊢
  have hl : lv_has ls 2 [(0, .ref h0), (1, .int (nI 0))] := hl
  refine lv_aload_n hx hb dX8_tableAt_0 rfl (lv_at hl 0 rfl) ?_
  refine va_get (D := D) (cl := vwCl) (ci := 8) (v := .ref ha) (C := RX8) (T := TX8) (N := 2) hx hb hts iX8 hown hK hP 0 rfl rfl 0 (by decide) (hts _ fl_X8_11) (fun _ h9 => h9) rfl dX8_tableAt_1 ?_
  refine lv_iload_n hx hb dX8_tableAt_4 rfl (lv_at hl 1 rfl) ?_
  refine lv_if_lt (tgt := 17) hx hb dX8_tableAt_5 (by decide) (fun c9 => ?_) (fun c9 => ?_)
  case' refine_1 => exact absurd c9 (by decide)
  refine lv_iload_n hx hb dX8_tableAt_8 rfl (lv_at hl 1 rfl) ?_
  refine lv_iconst (v := nI 4) hx hb dX8_tableAt_9 (by decide) ?_
  refine lv_icmp_ge (tgt := 17) hx hb dX8_tableAt_10 (by decide) (fun c9 => ?_) (fun c9 => ?_)
  case' refine_1 => exact absurd c9 (by decide)
  refine lv_iload_n hx hb dX8_tableAt_13 rfl (lv_at hl 1 rfl) ?_
  refine lv_goto (tgt := 18) hx hb dX8_tableAt_14 (by decide) ?_
  refine va_aldq (D := D) (cl := vwCl) (C := "QueryForge$Table") hx hb hK hP 1 4 rfl rfl (vp_in_nI (by decide) (by decide)) dX8_tableAt_18 ?_
  rw [show (nI 0).toNatClampNeg = 0 from rfl, hf0]
  refine W.eq (g2 := F0 m 19 ls [.ref t0]) rfl ?_
  refine W.widen (k := 0) (n := 0) (Nat.le_of_ble_eq_true rfl) (Nat.le_of_ble_eq_true rfl) ?_
  exact W.aret hx hb hr (Or.inl ⟨_, rfl⟩) (Or.inr ⟨_, rfl⟩) (fun t ht hW => ⟨⟨(fun _ => 0), t0, rfl, trivial, rfl, by rw [ht]; exact hP, va_K.moved hW.alike hK, hD⟩, hS.F ht⟩) hS.2.2 dX8_tableAt_19
