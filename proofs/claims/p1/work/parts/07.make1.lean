set_option maxHeartbeats 4000000 in
set_option maxRecDepth 100000 in
theorem c_X5_init (l : Launch) (D : va_G) (K : Nat → ClassId) (h0 : Nat) (sz : Nat) : Met l yX5_init [.code yX5_init cX5_init 1 none] ({ frames := 1, cells := 6, slots := 60, locals := 12 }) (xPre D K [.ref h0] [(h0, .inr (1, [.null, .null, .null, .null, .null, .null, .int 0, .int 0]))] sz) (va_Qv (fun (u : Nat → Nat) => True) (fun u t => xW D (va_A [(h0, .inr (1, [.null, .null, .null, .null, .null, .null, .int 0, .int 0]))] sz) ((fun (u : Nat → Nat) => [(h0, .inr (1, [.ref (u 0), .ref (u 1), .ref (u 2), .ref (u 3), .ref (u 4), .ref (u 5), .int 0, .int 0])), ((u 0), .inl (K 0, 12, .inl (fun _ => 0))), ((u 1), .inl (K 1, 12, .inl (fun _ => 0))), ((u 2), .inl (K 0, 12, .inl (fun _ => 0))), ((u 3), .inl (K 0, 8, .inl (fun _ => 0))), ((u 4), .inl (K 0, 8, .inl (fun _ => 0)))]) u) t) (va_A [(h0, .inr (1, [.null, .null, .null, .null, .null, .null, .int 0, .int 0]))] sz)) 6 60 (va_A [(h0, .inr (1, [.null, .null, .null, .null, .null, .null, .int 0, .int 0]))] sz) := by
  refine Met.ofW (cc := cX5_init) (maxL := 1) (ret := none) (by decide) rfl ?_
  intro p e s m args below meth c s₁ B hml hv
  obtain ⟨rfl, hsz, hP, hD0, hE⟩ := hv
  have hx := B.exec
  have hb := B.bytes
  have hr := B.returns
  have hlocks := B.notSynchronized
  have hts := hE.1.ts ([.ref h0] : List Value).toArray
  have hnt := hE.1.nt ([.ref h0] : List Value).toArray
  have hK := hE.2.1
  have hown : s.vm.findClass RX5 = some m.cls := findClass_of_methodNamed B.named
  have hin : meth.name = "<init>" := (name_of_methodNamed B.named B.method).1
  subst hsz
  have hD := hD0.self (sz := s.heap.size)
  generalize hAe : va_A [(h0, .inr (1, [.null, .null, .null, .null, .null, .null, .int 0, .int 0]))] s.heap.size = A at hD hE ⊢
  have hA : ∀ q : Nat, s.heap.size ≤ q → A q := fun q h => by rw [← hAe]; exact Or.inr h
  have hl := lv_entry ([.ref h0]) (n := 1) (Nat.le_of_ble_eq_true rfl)
  rw [lg_entry_eq]
  generalize (lg_sl ([.ref h0]) ++ List.replicate (1 - (lg_sl ([.ref h0])).length) Slot.unset).toArray = ls at hl ⊢
  have hl : lv_has ls 1 [(0, .ref h0)] := hl
  generalize hH : s.heap = H at hP ⊢
  have hS : va_S A s.heap H [] := by rw [← hH]; exact va_S.rf
  refine lv_aload_n hx hb dX5_init_0 rfl (lv_at hl 0 rfl) ?_
  refine W.objInit hx hb hown (hts _ xw2_20) (hts _ xw1_12) (hts _ xw1_13) rfl (by rw [hml]; exact hl.1) rfl dX5_init_1 (Nat.le_of_ble_eq_true rfl) (Nat.le_of_ble_eq_true rfl) ?_
  refine W.eq (g2 := F0 m 4 ls []) rfl ?_
  refine lv_aload_n hx hb dX5_init_4 rfl (lv_at hl 0 rfl) ?_
  refine lv_bipush (v := 12) hx hb dX5_init_5 (by decide) ?_
  refine va_newa (atype := .int) (ty := .int) (N' := 12) (a0 := (12, .inl (fun _ => 0))) hx hb (hts _ xw2_21) rfl hK hP hD hS hA (fun _ => rfl) (by decide) (by decide) (by decide) (Nat.le_of_ble_eq_true rfl) (Nat.le_of_ble_eq_true rfl) dX5_init_7 (fun q_1 cA_2 H hK9 hP hD hS => ?_)
  obtain rfl := xKu hK9 0 rfl
  have hP : va_P D xCl [(h0, .inr (1, [.null, .null, .null, .null, .null, .null, .int 0, .int 0])), (q_1, .inl (K 0, 12, .inl (fun _ => 0)))] H := hP
  have hD : va_D A [(h0, .inr (1, [.null, .null, .null, .null, .null, .null, .int 0, .int 0])), (q_1, .inl (K 0, 12, .inl (fun _ => 0)))] := hD
  refine W.widen (k := 1) (n := 12) (Nat.le_of_ble_eq_true rfl) (Nat.le_of_ble_eq_true rfl) ?_
  refine va_putF (D := D) (ci := 1) (v := .ref q_1) (ty := (.array .int)) (C := RX5) (T := TX5) (N := 8) hx hb hts inlX5 tyX5 tyX5_ok nmX5 hown hK hP hD hS 0 rfl rfl 0 (by decide) (hts _ xw2_22) (fun _ h9 => h9) rfl hin rfl (by decide +kernel) rfl rfl (Nat.le_of_ble_eq_true rfl) dX5_init_9 (fun H locs hP hD hS => ?_)
  have hP : va_P D xCl [(h0, .inr (1, [.ref q_1, .null, .null, .null, .null, .null, .int 0, .int 0])), (q_1, .inl (K 0, 12, .inl (fun _ => 0)))] H := hP
  have hD : va_D A [(h0, .inr (1, [.ref q_1, .null, .null, .null, .null, .null, .int 0, .int 0])), (q_1, .inl (K 0, 12, .inl (fun _ => 0)))] := hD
  refine lv_aload_n hx hb dX5_init_12 rfl (lv_at hl 0 rfl) ?_
  refine lv_bipush (v := 12) hx hb dX5_init_13 (by decide) ?_
  refine va_newa (atype := .boolean) (ty := .boolean) (N' := 12) (a0 := (12, .inl (fun _ => 0))) hx hb (hts _ xw2_23) rfl hK hP hD hS hA (fun _ => rfl) (by decide) (by decide) (by decide) (Nat.le_of_ble_eq_true rfl) (Nat.le_of_ble_eq_true rfl) dX5_init_15 (fun q_3 cA_4 H hK9 hP hD hS => ?_)
  obtain rfl := xKu hK9 1 rfl
  have hP : va_P D xCl [(h0, .inr (1, [.ref q_1, .null, .null, .null, .null, .null, .int 0, .int 0])), (q_1, .inl (K 0, 12, .inl (fun _ => 0))), (q_3, .inl (K 1, 12, .inl (fun _ => 0)))] H := hP
  have hD : va_D A [(h0, .inr (1, [.ref q_1, .null, .null, .null, .null, .null, .int 0, .int 0])), (q_1, .inl (K 0, 12, .inl (fun _ => 0))), (q_3, .inl (K 1, 12, .inl (fun _ => 0)))] := hD
  refine W.widen (k := 2) (n := 24) (Nat.le_of_ble_eq_true rfl) (Nat.le_of_ble_eq_true rfl) ?_
  refine va_putF (D := D) (ci := 1) (v := .ref q_3) (ty := (.array .boolean)) (C := RX5) (T := TX5) (N := 8) hx hb hts inlX5 tyX5 tyX5_ok nmX5 hown hK hP hD hS 0 rfl rfl 1 (by decide) (hts _ xw3_0) (fun _ h9 => h9) rfl hin rfl (by decide +kernel) rfl rfl (Nat.le_of_ble_eq_true rfl) dX5_init_17 (fun H locs hP hD hS => ?_)
  have hP : va_P D xCl [(h0, .inr (1, [.ref q_1, .ref q_3, .null, .null, .null, .null, .int 0, .int 0])), (q_1, .inl (K 0, 12, .inl (fun _ => 0))), (q_3, .inl (K 1, 12, .inl (fun _ => 0)))] H := hP
  have hD : va_D A [(h0, .inr (1, [.ref q_1, .ref q_3, .null, .null, .null, .null, .int 0, .int 0])), (q_1, .inl (K 0, 12, .inl (fun _ => 0))), (q_3, .inl (K 1, 12, .inl (fun _ => 0)))] := hD
  refine lv_aload_n hx hb dX5_init_20 rfl (lv_at hl 0 rfl) ?_
  refine lv_bipush (v := 12) hx hb dX5_init_21 (by decide) ?_
  refine va_newa (atype := .int) (ty := .int) (N' := 12) (a0 := (12, .inl (fun _ => 0))) hx hb (hts _ xw2_21) rfl hK hP hD hS hA (fun _ => rfl) (by decide) (by decide) (by decide) (Nat.le_of_ble_eq_true rfl) (Nat.le_of_ble_eq_true rfl) dX5_init_23 (fun q_5 cA_6 H hK9 hP hD hS => ?_)
  obtain rfl := xKu hK9 0 rfl
  have hP : va_P D xCl [(h0, .inr (1, [.ref q_1, .ref q_3, .null, .null, .null, .null, .int 0, .int 0])), (q_1, .inl (K 0, 12, .inl (fun _ => 0))), (q_3, .inl (K 1, 12, .inl (fun _ => 0))), (q_5, .inl (K 0, 12, .inl (fun _ => 0)))] H := hP
  have hD : va_D A [(h0, .inr (1, [.ref q_1, .ref q_3, .null, .null, .null, .null, .int 0, .int 0])), (q_1, .inl (K 0, 12, .inl (fun _ => 0))), (q_3, .inl (K 1, 12, .inl (fun _ => 0))), (q_5, .inl (K 0, 12, .inl (fun _ => 0)))] := hD
  refine W.widen (k := 3) (n := 36) (Nat.le_of_ble_eq_true rfl) (Nat.le_of_ble_eq_true rfl) ?_
  refine va_putF (D := D) (ci := 1) (v := .ref q_5) (ty := (.array .int)) (C := RX5) (T := TX5) (N := 8) hx hb hts inlX5 tyX5 tyX5_ok nmX5 hown hK hP hD hS 0 rfl rfl 2 (by decide) (hts _ xw3_1) (fun _ h9 => h9) rfl hin rfl (by decide +kernel) rfl rfl (Nat.le_of_ble_eq_true rfl) dX5_init_25 (fun H locs hP hD hS => ?_)
  have hP : va_P D xCl [(h0, .inr (1, [.ref q_1, .ref q_3, .ref q_5, .null, .null, .null, .int 0, .int 0])), (q_1, .inl (K 0, 12, .inl (fun _ => 0))), (q_3, .inl (K 1, 12, .inl (fun _ => 0))), (q_5, .inl (K 0, 12, .inl (fun _ => 0)))] H := hP
  have hD : va_D A [(h0, .inr (1, [.ref q_1, .ref q_3, .ref q_5, .null, .null, .null, .int 0, .int 0])), (q_1, .inl (K 0, 12, .inl (fun _ => 0))), (q_3, .inl (K 1, 12, .inl (fun _ => 0))), (q_5, .inl (K 0, 12, .inl (fun _ => 0)))] := hD
  refine lv_aload_n hx hb dX5_init_28 rfl (lv_at hl 0 rfl) ?_
  refine lv_bipush (v := 8) hx hb dX5_init_29 (by decide) ?_
  refine va_newa (atype := .int) (ty := .int) (N' := 8) (a0 := (8, .inl (fun _ => 0))) hx hb (hts _ xw2_21) rfl hK hP hD hS hA (fun _ => rfl) (by decide) (by decide) (by decide) (Nat.le_of_ble_eq_true rfl) (Nat.le_of_ble_eq_true rfl) dX5_init_31 (fun q_7 cA_8 H hK9 hP hD hS => ?_)
  obtain rfl := xKu hK9 0 rfl
  have hP : va_P D xCl [(h0, .inr (1, [.ref q_1, .ref q_3, .ref q_5, .null, .null, .null, .int 0, .int 0])), (q_1, .inl (K 0, 12, .inl (fun _ => 0))), (q_3, .inl (K 1, 12, .inl (fun _ => 0))), (q_5, .inl (K 0, 12, .inl (fun _ => 0))), (q_7, .inl (K 0, 8, .inl (fun _ => 0)))] H := hP
  have hD : va_D A [(h0, .inr (1, [.ref q_1, .ref q_3, .ref q_5, .null, .null, .null, .int 0, .int 0])), (q_1, .inl (K 0, 12, .inl (fun _ => 0))), (q_3, .inl (K 1, 12, .inl (fun _ => 0))), (q_5, .inl (K 0, 12, .inl (fun _ => 0))), (q_7, .inl (K 0, 8, .inl (fun _ => 0)))] := hD
  refine W.widen (k := 4) (n := 44) (Nat.le_of_ble_eq_true rfl) (Nat.le_of_ble_eq_true rfl) ?_
  refine va_putF (D := D) (ci := 1) (v := .ref q_7) (ty := (.array .int)) (C := RX5) (T := TX5) (N := 8) hx hb hts inlX5 tyX5 tyX5_ok nmX5 hown hK hP hD hS 0 rfl rfl 3 (by decide) (hts _ xw3_2) (fun _ h9 => h9) rfl hin rfl (by decide +kernel) rfl rfl (Nat.le_of_ble_eq_true rfl) dX5_init_33 (fun H locs hP hD hS => ?_)
  have hP : va_P D xCl [(h0, .inr (1, [.ref q_1, .ref q_3, .ref q_5, .ref q_7, .null, .null, .int 0, .int 0])), (q_1, .inl (K 0, 12, .inl (fun _ => 0))), (q_3, .inl (K 1, 12, .inl (fun _ => 0))), (q_5, .inl (K 0, 12, .inl (fun _ => 0))), (q_7, .inl (K 0, 8, .inl (fun _ => 0)))] H := hP
  have hD : va_D A [(h0, .inr (1, [.ref q_1, .ref q_3, .ref q_5, .ref q_7, .null, .null, .int 0, .int 0])), (q_1, .inl (K 0, 12, .inl (fun _ => 0))), (q_3, .inl (K 1, 12, .inl (fun _ => 0))), (q_5, .inl (K 0, 12, .inl (fun _ => 0))), (q_7, .inl (K 0, 8, .inl (fun _ => 0)))] := hD
  refine lv_aload_n hx hb dX5_init_36 rfl (lv_at hl 0 rfl) ?_
  refine lv_bipush (v := 8) hx hb dX5_init_37 (by decide) ?_
  refine va_newa (atype := .int) (ty := .int) (N' := 8) (a0 := (8, .inl (fun _ => 0))) hx hb (hts _ xw2_21) rfl hK hP hD hS hA (fun _ => rfl) (by decide) (by decide) (by decide) (Nat.le_of_ble_eq_true rfl) (Nat.le_of_ble_eq_true rfl) dX5_init_39 (fun q_9 cA_10 H hK9 hP hD hS => ?_)
  obtain rfl := xKu hK9 0 rfl
  have hP : va_P D xCl [(h0, .inr (1, [.ref q_1, .ref q_3, .ref q_5, .ref q_7, .null, .null, .int 0, .int 0])), (q_1, .inl (K 0, 12, .inl (fun _ => 0))), (q_3, .inl (K 1, 12, .inl (fun _ => 0))), (q_5, .inl (K 0, 12, .inl (fun _ => 0))), (q_7, .inl (K 0, 8, .inl (fun _ => 0))), (q_9, .inl (K 0, 8, .inl (fun _ => 0)))] H := hP
  have hD : va_D A [(h0, .inr (1, [.ref q_1, .ref q_3, .ref q_5, .ref q_7, .null, .null, .int 0, .int 0])), (q_1, .inl (K 0, 12, .inl (fun _ => 0))), (q_3, .inl (K 1, 12, .inl (fun _ => 0))), (q_5, .inl (K 0, 12, .inl (fun _ => 0))), (q_7, .inl (K 0, 8, .inl (fun _ => 0))), (q_9, .inl (K 0, 8, .inl (fun _ => 0)))] := hD
  refine W.widen (k := 5) (n := 52) (Nat.le_of_ble_eq_true rfl) (Nat.le_of_ble_eq_true rfl) ?_
  refine va_putF (D := D) (ci := 1) (v := .ref q_9) (ty := (.array .int)) (C := RX5) (T := TX5) (N := 8) hx hb hts inlX5 tyX5 tyX5_ok nmX5 hown hK hP hD hS 0 rfl rfl 4 (by decide) (hts _ xw3_3) (fun _ h9 => h9) rfl hin rfl (by decide +kernel) rfl rfl (Nat.le_of_ble_eq_true rfl) dX5_init_41 (fun H locs hP hD hS => ?_)
  have hP : va_P D xCl [(h0, .inr (1, [.ref q_1, .ref q_3, .ref q_5, .ref q_7, .ref q_9, .null, .int 0, .int 0])), (q_1, .inl (K 0, 12, .inl (fun _ => 0))), (q_3, .inl (K 1, 12, .inl (fun _ => 0))), (q_5, .inl (K 0, 12, .inl (fun _ => 0))), (q_7, .inl (K 0, 8, .inl (fun _ => 0))), (q_9, .inl (K 0, 8, .inl (fun _ => 0)))] H := hP
  have hD : va_D A [(h0, .inr (1, [.ref q_1, .ref q_3, .ref q_5, .ref q_7, .ref q_9, .null, .int 0, .int 0])), (q_1, .inl (K 0, 12, .inl (fun _ => 0))), (q_3, .inl (K 1, 12, .inl (fun _ => 0))), (q_5, .inl (K 0, 12, .inl (fun _ => 0))), (q_7, .inl (K 0, 8, .inl (fun _ => 0))), (q_9, .inl (K 0, 8, .inl (fun _ => 0)))] := hD
  refine lv_aload_n hx hb dX5_init_44 rfl (lv_at hl 0 rfl) ?_
  refine lv_bipush (v := 8) hx hb dX5_init_45 (by decide) ?_
  refine va_newa (atype := .int) (ty := .int) (N' := 8) (a0 := (8, .inl (fun _ => 0))) hx hb (hts _ xw2_21) rfl hK hP hD hS hA (fun _ => rfl) (by decide) (by decide) (by decide) (Nat.le_of_ble_eq_true rfl) (Nat.le_of_ble_eq_true rfl) dX5_init_47 (fun q_11 cA_12 H hK9 hP hD hS => ?_)
  obtain rfl := xKu hK9 0 rfl
  have hP : va_P D xCl [(h0, .inr (1, [.ref q_1, .ref q_3, .ref q_5, .ref q_7, .ref q_9, .null, .int 0, .int 0])), (q_1, .inl (K 0, 12, .inl (fun _ => 0))), (q_3, .inl (K 1, 12, .inl (fun _ => 0))), (q_5, .inl (K 0, 12, .inl (fun _ => 0))), (q_7, .inl (K 0, 8, .inl (fun _ => 0))), (q_9, .inl (K 0, 8, .inl (fun _ => 0))), (q_11, .inl (K 0, 8, .inl (fun _ => 0)))] H := hP
  have hD : va_D A [(h0, .inr (1, [.ref q_1, .ref q_3, .ref q_5, .ref q_7, .ref q_9, .null, .int 0, .int 0])), (q_1, .inl (K 0, 12, .inl (fun _ => 0))), (q_3, .inl (K 1, 12, .inl (fun _ => 0))), (q_5, .inl (K 0, 12, .inl (fun _ => 0))), (q_7, .inl (K 0, 8, .inl (fun _ => 0))), (q_9, .inl (K 0, 8, .inl (fun _ => 0))), (q_11, .inl (K 0, 8, .inl (fun _ => 0)))] := hD
  refine W.widen (k := 6) (n := 60) (Nat.le_of_ble_eq_true rfl) (Nat.le_of_ble_eq_true rfl) ?_
  refine va_putF (D := D) (ci := 1) (v := .ref q_11) (ty := (.array .int)) (C := RX5) (T := TX5) (N := 8) hx hb hts inlX5 tyX5 tyX5_ok nmX5 hown hK hP hD hS 0 rfl rfl 5 (by decide) (hts _ xw3_4) (fun _ h9 => h9) rfl hin rfl (by decide +kernel) rfl rfl (Nat.le_of_ble_eq_true rfl) dX5_init_49 (fun H locs hP hD hS => ?_)
  have hP : va_P D xCl [(h0, .inr (1, [.ref q_1, .ref q_3, .ref q_5, .ref q_7, .ref q_9, .ref q_11, .int 0, .int 0])), (q_1, .inl (K 0, 12, .inl (fun _ => 0))), (q_3, .inl (K 1, 12, .inl (fun _ => 0))), (q_5, .inl (K 0, 12, .inl (fun _ => 0))), (q_7, .inl (K 0, 8, .inl (fun _ => 0))), (q_9, .inl (K 0, 8, .inl (fun _ => 0))), (q_11, .inl (K 0, 8, .inl (fun _ => 0)))] H := hP
  have hD : va_D A [(h0, .inr (1, [.ref q_1, .ref q_3, .ref q_5, .ref q_7, .ref q_9, .ref q_11, .int 0, .int 0])), (q_1, .inl (K 0, 12, .inl (fun _ => 0))), (q_3, .inl (K 1, 12, .inl (fun _ => 0))), (q_5, .inl (K 0, 12, .inl (fun _ => 0))), (q_7, .inl (K 0, 8, .inl (fun _ => 0))), (q_9, .inl (K 0, 8, .inl (fun _ => 0))), (q_11, .inl (K 0, 8, .inl (fun _ => 0)))] := hD
  have hP9 : va_P D xCl [(h0, .inr (1, [.ref q_1, .ref q_3, .ref q_5, .ref q_7, .ref q_9, .ref q_11, .int 0, .int 0])), (q_1, .inl (K 0, 12, .inl (fun _ => 0))), (q_3, .inl (K 1, 12, .inl (fun _ => 0))), (q_5, .inl (K 0, 12, .inl (fun _ => 0))), (q_7, .inl (K 0, 8, .inl (fun _ => 0))), (q_9, .inl (K 0, 8, .inl (fun _ => 0)))] H := hP.sub [0, 1, 2, 3, 4, 5] rfl
  have hD9 : va_D A [(h0, .inr (1, [.ref q_1, .ref q_3, .ref q_5, .ref q_7, .ref q_9, .ref q_11, .int 0, .int 0])), (q_1, .inl (K 0, 12, .inl (fun _ => 0))), (q_3, .inl (K 1, 12, .inl (fun _ => 0))), (q_5, .inl (K 0, 12, .inl (fun _ => 0))), (q_7, .inl (K 0, 8, .inl (fun _ => 0))), (q_9, .inl (K 0, 8, .inl (fun _ => 0)))] := hD.sub [0, 1, 2, 3, 4, 5] (by decide) rfl
  refine W.widen (k := 6) (n := 60) (Nat.le_of_ble_eq_true rfl) (Nat.le_of_ble_eq_true rfl) ?_
  exact W.vret hx hb hr (fun t ht hW => ⟨⟨(fun k => [q_1, q_3, q_5, q_7, q_9, q_11].getD k 0), rfl, trivial, by rw [ht]; exact hP9, hD9⟩, hS.F ht⟩) hS.2.2 dX5_init_52
set_option maxHeartbeats 4000000 in
set_option maxRecDepth 100000 in
theorem c_X7_init (l : Launch) (D : va_G) (K : Nat → ClassId) (h0 : Nat) (sz : Nat) : Met l yX7_init [.code yX7_init cX7_init 1 none] ({ frames := 1, cells := 4, slots := 72, locals := 12 }) (xPre D K [.ref h0] [(h0, .inr (2, [.null, .null, .null, .null, .long 0]))] sz) (va_Qv (fun (u : Nat → Nat) => True) (fun u t => xW D (va_A [(h0, .inr (2, [.null, .null, .null, .null, .long 0]))] sz) ((fun (u : Nat → Nat) => [(h0, .inr (2, [.ref (u 0), .ref (u 1), .ref (u 2), .ref (u 3), .long 0])), ((u 2), .inl (K 0, 24, .inl (fun _ => 0)))]) u) t) (va_A [(h0, .inr (2, [.null, .null, .null, .null, .long 0]))] sz)) 4 72 (va_A [(h0, .inr (2, [.null, .null, .null, .null, .long 0]))] sz) := by
  refine Met.ofW (cc := cX7_init) (maxL := 1) (ret := none) (by decide) rfl ?_
  intro p e s m args below meth c s₁ B hml hv
  obtain ⟨rfl, hsz, hP, hD0, hE⟩ := hv
  have hx := B.exec
  have hb := B.bytes
  have hr := B.returns
  have hlocks := B.notSynchronized
  have hts := hE.1.ts ([.ref h0] : List Value).toArray
  have hnt := hE.1.nt ([.ref h0] : List Value).toArray
  have hK := hE.2.1
  have hown : s.vm.findClass RX7 = some m.cls := findClass_of_methodNamed B.named
  have hin : meth.name = "<init>" := (name_of_methodNamed B.named B.method).1
  subst hsz
  have hD := hD0.self (sz := s.heap.size)
  generalize hAe : va_A [(h0, .inr (2, [.null, .null, .null, .null, .long 0]))] s.heap.size = A at hD hE ⊢
  have hA : ∀ q : Nat, s.heap.size ≤ q → A q := fun q h => by rw [← hAe]; exact Or.inr h
  have hl := lv_entry ([.ref h0]) (n := 1) (Nat.le_of_ble_eq_true rfl)
  rw [lg_entry_eq]
  generalize (lg_sl ([.ref h0]) ++ List.replicate (1 - (lg_sl ([.ref h0])).length) Slot.unset).toArray = ls at hl ⊢
  have hl : lv_has ls 1 [(0, .ref h0)] := hl
  generalize hH : s.heap = H at hP ⊢
  have hS : va_S A s.heap H [] := by rw [← hH]; exact va_S.rf
  refine lv_aload_n hx hb dX7_init_0 rfl (lv_at hl 0 rfl) ?_
  refine W.objInit hx hb hown (hts _ xw3_7) (hts _ xw1_12) (hts _ xw1_13) rfl (by rw [hml]; exact hl.1) rfl dX7_init_1 (Nat.le_of_ble_eq_true rfl) (Nat.le_of_ble_eq_true rfl) ?_
  refine W.eq (g2 := F0 m 4 ls []) rfl ?_
  refine lv_aload_n hx hb dX7_init_4 rfl (lv_at hl 0 rfl) ?_
  refine lv_bipush (v := 12) hx hb dX7_init_5 (by decide) ?_
  refine va_newa (atype := .int) (ty := .int) (N' := 12) (a0 := (12, .inl (fun _ => 0))) hx hb (hts _ xw2_21) rfl hK hP hD hS hA (fun _ => rfl) (by decide) (by decide) (by decide) (Nat.le_of_ble_eq_true rfl) (Nat.le_of_ble_eq_true rfl) dX7_init_7 (fun q_1 cA_2 H hK9 hP hD hS => ?_)
  obtain rfl := xKu hK9 0 rfl
  have hP : va_P D xCl [(h0, .inr (2, [.null, .null, .null, .null, .long 0])), (q_1, .inl (K 0, 12, .inl (fun _ => 0)))] H := hP
  have hD : va_D A [(h0, .inr (2, [.null, .null, .null, .null, .long 0])), (q_1, .inl (K 0, 12, .inl (fun _ => 0)))] := hD
  refine W.widen (k := 1) (n := 12) (Nat.le_of_ble_eq_true rfl) (Nat.le_of_ble_eq_true rfl) ?_
  refine va_putF (D := D) (ci := 2) (v := .ref q_1) (ty := (.array .int)) (C := RX7) (T := TX7) (N := 5) hx hb hts inlX7 tyX7 tyX7_ok nmX7 hown hK hP hD hS 0 rfl rfl 0 (by decide) (hts _ xw3_8) (fun _ h9 => h9) rfl hin rfl (by decide +kernel) rfl rfl (Nat.le_of_ble_eq_true rfl) dX7_init_9 (fun H locs hP hD hS => ?_)
  have hP : va_P D xCl [(h0, .inr (2, [.ref q_1, .null, .null, .null, .long 0])), (q_1, .inl (K 0, 12, .inl (fun _ => 0)))] H := hP
  have hD : va_D A [(h0, .inr (2, [.ref q_1, .null, .null, .null, .long 0])), (q_1, .inl (K 0, 12, .inl (fun _ => 0)))] := hD
  refine lv_aload_n hx hb dX7_init_12 rfl (lv_at hl 0 rfl) ?_
  refine lv_bipush (v := 12) hx hb dX7_init_13 (by decide) ?_
  refine va_newa (atype := .int) (ty := .int) (N' := 12) (a0 := (12, .inl (fun _ => 0))) hx hb (hts _ xw2_21) rfl hK hP hD hS hA (fun _ => rfl) (by decide) (by decide) (by decide) (Nat.le_of_ble_eq_true rfl) (Nat.le_of_ble_eq_true rfl) dX7_init_15 (fun q_3 cA_4 H hK9 hP hD hS => ?_)
  obtain rfl := xKu hK9 0 rfl
  have hP : va_P D xCl [(h0, .inr (2, [.ref q_1, .null, .null, .null, .long 0])), (q_1, .inl (K 0, 12, .inl (fun _ => 0))), (q_3, .inl (K 0, 12, .inl (fun _ => 0)))] H := hP
  have hD : va_D A [(h0, .inr (2, [.ref q_1, .null, .null, .null, .long 0])), (q_1, .inl (K 0, 12, .inl (fun _ => 0))), (q_3, .inl (K 0, 12, .inl (fun _ => 0)))] := hD
  refine W.widen (k := 2) (n := 24) (Nat.le_of_ble_eq_true rfl) (Nat.le_of_ble_eq_true rfl) ?_
  refine va_putF (D := D) (ci := 2) (v := .ref q_3) (ty := (.array .int)) (C := RX7) (T := TX7) (N := 5) hx hb hts inlX7 tyX7 tyX7_ok nmX7 hown hK hP hD hS 0 rfl rfl 1 (by decide) (hts _ xw3_9) (fun _ h9 => h9) rfl hin rfl (by decide +kernel) rfl rfl (Nat.le_of_ble_eq_true rfl) dX7_init_17 (fun H locs hP hD hS => ?_)
  have hP : va_P D xCl [(h0, .inr (2, [.ref q_1, .ref q_3, .null, .null, .long 0])), (q_1, .inl (K 0, 12, .inl (fun _ => 0))), (q_3, .inl (K 0, 12, .inl (fun _ => 0)))] H := hP
  have hD : va_D A [(h0, .inr (2, [.ref q_1, .ref q_3, .null, .null, .long 0])), (q_1, .inl (K 0, 12, .inl (fun _ => 0))), (q_3, .inl (K 0, 12, .inl (fun _ => 0)))] := hD
  refine lv_aload_n hx hb dX7_init_20 rfl (lv_at hl 0 rfl) ?_
  refine lv_bipush (v := 24) hx hb dX7_init_21 (by decide) ?_
  refine va_newa (atype := .int) (ty := .int) (N' := 24) (a0 := (24, .inl (fun _ => 0))) hx hb (hts _ xw2_21) rfl hK hP hD hS hA (fun _ => rfl) (by decide) (by decide) (by decide) (Nat.le_of_ble_eq_true rfl) (Nat.le_of_ble_eq_true rfl) dX7_init_23 (fun q_5 cA_6 H hK9 hP hD hS => ?_)
  obtain rfl := xKu hK9 0 rfl
  have hP : va_P D xCl [(h0, .inr (2, [.ref q_1, .ref q_3, .null, .null, .long 0])), (q_1, .inl (K 0, 12, .inl (fun _ => 0))), (q_3, .inl (K 0, 12, .inl (fun _ => 0))), (q_5, .inl (K 0, 24, .inl (fun _ => 0)))] H := hP
  have hD : va_D A [(h0, .inr (2, [.ref q_1, .ref q_3, .null, .null, .long 0])), (q_1, .inl (K 0, 12, .inl (fun _ => 0))), (q_3, .inl (K 0, 12, .inl (fun _ => 0))), (q_5, .inl (K 0, 24, .inl (fun _ => 0)))] := hD
  refine W.widen (k := 3) (n := 48) (Nat.le_of_ble_eq_true rfl) (Nat.le_of_ble_eq_true rfl) ?_
  refine va_putF (D := D) (ci := 2) (v := .ref q_5) (ty := (.array .int)) (C := RX7) (T := TX7) (N := 5) hx hb hts inlX7 tyX7 tyX7_ok nmX7 hown hK hP hD hS 0 rfl rfl 2 (by decide) (hts _ xw3_10) (fun _ h9 => h9) rfl hin rfl (by decide +kernel) rfl rfl (Nat.le_of_ble_eq_true rfl) dX7_init_25 (fun H locs hP hD hS => ?_)
  have hP : va_P D xCl [(h0, .inr (2, [.ref q_1, .ref q_3, .ref q_5, .null, .long 0])), (q_1, .inl (K 0, 12, .inl (fun _ => 0))), (q_3, .inl (K 0, 12, .inl (fun _ => 0))), (q_5, .inl (K 0, 24, .inl (fun _ => 0)))] H := hP
  have hD : va_D A [(h0, .inr (2, [.ref q_1, .ref q_3, .ref q_5, .null, .long 0])), (q_1, .inl (K 0, 12, .inl (fun _ => 0))), (q_3, .inl (K 0, 12, .inl (fun _ => 0))), (q_5, .inl (K 0, 24, .inl (fun _ => 0)))] := hD
  refine lv_aload_n hx hb dX7_init_28 rfl (lv_at hl 0 rfl) ?_
  refine lv_bipush (v := 24) hx hb dX7_init_29 (by decide) ?_
  refine va_newa (atype := .int) (ty := .int) (N' := 24) (a0 := (24, .inl (fun _ => 0))) hx hb (hts _ xw2_21) rfl hK hP hD hS hA (fun _ => rfl) (by decide) (by decide) (by decide) (Nat.le_of_ble_eq_true rfl) (Nat.le_of_ble_eq_true rfl) dX7_init_31 (fun q_7 cA_8 H hK9 hP hD hS => ?_)
  obtain rfl := xKu hK9 0 rfl
  have hP : va_P D xCl [(h0, .inr (2, [.ref q_1, .ref q_3, .ref q_5, .null, .long 0])), (q_1, .inl (K 0, 12, .inl (fun _ => 0))), (q_3, .inl (K 0, 12, .inl (fun _ => 0))), (q_5, .inl (K 0, 24, .inl (fun _ => 0))), (q_7, .inl (K 0, 24, .inl (fun _ => 0)))] H := hP
  have hD : va_D A [(h0, .inr (2, [.ref q_1, .ref q_3, .ref q_5, .null, .long 0])), (q_1, .inl (K 0, 12, .inl (fun _ => 0))), (q_3, .inl (K 0, 12, .inl (fun _ => 0))), (q_5, .inl (K 0, 24, .inl (fun _ => 0))), (q_7, .inl (K 0, 24, .inl (fun _ => 0)))] := hD
  refine W.widen (k := 4) (n := 72) (Nat.le_of_ble_eq_true rfl) (Nat.le_of_ble_eq_true rfl) ?_
  refine va_putF (D := D) (ci := 2) (v := .ref q_7) (ty := (.array .int)) (C := RX7) (T := TX7) (N := 5) hx hb hts inlX7 tyX7 tyX7_ok nmX7 hown hK hP hD hS 0 rfl rfl 3 (by decide) (hts _ xw3_11) (fun _ h9 => h9) rfl hin rfl (by decide +kernel) rfl rfl (Nat.le_of_ble_eq_true rfl) dX7_init_33 (fun H locs hP hD hS => ?_)
  have hP : va_P D xCl [(h0, .inr (2, [.ref q_1, .ref q_3, .ref q_5, .ref q_7, .long 0])), (q_1, .inl (K 0, 12, .inl (fun _ => 0))), (q_3, .inl (K 0, 12, .inl (fun _ => 0))), (q_5, .inl (K 0, 24, .inl (fun _ => 0))), (q_7, .inl (K 0, 24, .inl (fun _ => 0)))] H := hP
  have hD : va_D A [(h0, .inr (2, [.ref q_1, .ref q_3, .ref q_5, .ref q_7, .long 0])), (q_1, .inl (K 0, 12, .inl (fun _ => 0))), (q_3, .inl (K 0, 12, .inl (fun _ => 0))), (q_5, .inl (K 0, 24, .inl (fun _ => 0))), (q_7, .inl (K 0, 24, .inl (fun _ => 0)))] := hD
  have hP9 : va_P D xCl [(h0, .inr (2, [.ref q_1, .ref q_3, .ref q_5, .ref q_7, .long 0])), (q_5, .inl (K 0, 24, .inl (fun _ => 0)))] H := hP.sub [0, 3] rfl
  have hD9 : va_D A [(h0, .inr (2, [.ref q_1, .ref q_3, .ref q_5, .ref q_7, .long 0])), (q_5, .inl (K 0, 24, .inl (fun _ => 0)))] := hD.sub [0, 3] (by decide) rfl
  refine W.widen (k := 4) (n := 72) (Nat.le_of_ble_eq_true rfl) (Nat.le_of_ble_eq_true rfl) ?_
  exact W.vret hx hb hr (fun t ht hW => ⟨⟨(fun k => [q_1, q_3, q_5, q_7].getD k 0), rfl, trivial, by rw [ht]; exact hP9, hD9⟩, hS.F ht⟩) hS.2.2 dX7_init_36
set_option maxHeartbeats 4000000 in
set_option maxRecDepth 100000 in
theorem c_X6_init (l : Launch) (D : va_G) (K : Nat → ClassId) (h0 : Nat) (sz : Nat) : Met l yX6_init [.code yX6_init cX6_init 1 none] ({ frames := 1, cells := 8, slots := 54, locals := 12 }) (xPre D K [.ref h0] [(h0, .inr (8, [.null, .null, .null, .null, .null, .null, .null, .null, .int 0]))] sz) (va_Qv (fun (u : Nat → Nat) => True) (fun u t => xW D (va_A [(h0, .inr (8, [.null, .null, .null, .null, .null, .null, .null, .null, .int 0]))] sz) ((fun (u : Nat → Nat) => [(h0, .inr (8, [.ref (u 0), .ref (u 1), .ref (u 2), .ref (u 3), .ref (u 4), .ref (u 5), .ref (u 6), .ref (u 7), .int 0]))]) u) t) (va_A [(h0, .inr (8, [.null, .null, .null, .null, .null, .null, .null, .null, .int 0]))] sz)) 8 54 (va_A [(h0, .inr (8, [.null, .null, .null, .null, .null, .null, .null, .null, .int 0]))] sz) := by
  refine Met.ofW (cc := cX6_init) (maxL := 1) (ret := none) (by decide) rfl ?_
  intro p e s m args below meth c s₁ B hml hv
  obtain ⟨rfl, hsz, hP, hD0, hE⟩ := hv
  have hx := B.exec
  have hb := B.bytes
  have hr := B.returns
  have hlocks := B.notSynchronized
  have hts := hE.1.ts ([.ref h0] : List Value).toArray
  have hnt := hE.1.nt ([.ref h0] : List Value).toArray
  have hK := hE.2.1
  have hown : s.vm.findClass RX6 = some m.cls := findClass_of_methodNamed B.named
  have hin : meth.name = "<init>" := (name_of_methodNamed B.named B.method).1
  subst hsz
  have hD := hD0.self (sz := s.heap.size)
  generalize hAe : va_A [(h0, .inr (8, [.null, .null, .null, .null, .null, .null, .null, .null, .int 0]))] s.heap.size = A at hD hE ⊢
  have hA : ∀ q : Nat, s.heap.size ≤ q → A q := fun q h => by rw [← hAe]; exact Or.inr h
  have hl := lv_entry ([.ref h0]) (n := 1) (Nat.le_of_ble_eq_true rfl)
  rw [lg_entry_eq]
  generalize (lg_sl ([.ref h0]) ++ List.replicate (1 - (lg_sl ([.ref h0])).length) Slot.unset).toArray = ls at hl ⊢
  have hl : lv_has ls 1 [(0, .ref h0)] := hl
  generalize hH : s.heap = H at hP ⊢
  have hS : va_S A s.heap H [] := by rw [← hH]; exact va_S.rf
  refine lv_aload_n hx hb dX6_init_0 rfl (lv_at hl 0 rfl) ?_
  refine W.objInit hx hb hown (hts _ xw3_23) (hts _ xw1_12) (hts _ xw1_13) rfl (by rw [hml]; exact hl.1) rfl dX6_init_1 (Nat.le_of_ble_eq_true rfl) (Nat.le_of_ble_eq_true rfl) ?_
  refine W.eq (g2 := F0 m 4 ls []) rfl ?_
  refine lv_aload_n hx hb dX6_init_4 rfl (lv_at hl 0 rfl) ?_
  refine lv_bipush (v := 6) hx hb dX6_init_5 (by decide) ?_
  refine va_newa (atype := .int) (ty := .int) (N' := 6) (a0 := (6, .inl (fun _ => 0))) hx hb (hts _ xw2_21) rfl hK hP hD hS hA (fun _ => rfl) (by decide) (by decide) (by decide) (Nat.le_of_ble_eq_true rfl) (Nat.le_of_ble_eq_true rfl) dX6_init_7 (fun q_1 cA_2 H hK9 hP hD hS => ?_)
  obtain rfl := xKu hK9 0 rfl
  have hP : va_P D xCl [(h0, .inr (8, [.null, .null, .null, .null, .null, .null, .null, .null, .int 0])), (q_1, .inl (K 0, 6, .inl (fun _ => 0)))] H := hP
  have hD : va_D A [(h0, .inr (8, [.null, .null, .null, .null, .null, .null, .null, .null, .int 0])), (q_1, .inl (K 0, 6, .inl (fun _ => 0)))] := hD
  refine W.widen (k := 1) (n := 6) (Nat.le_of_ble_eq_true rfl) (Nat.le_of_ble_eq_true rfl) ?_
  refine va_putF (D := D) (ci := 8) (v := .ref q_1) (ty := (.array .int)) (C := RX6) (T := TX6) (N := 9) hx hb hts inlX6 tyX6 tyX6_ok nmX6 hown hK hP hD hS 0 rfl rfl 0 (by decide) (hts _ xw4_0) (fun _ h9 => h9) rfl hin rfl (by decide +kernel) rfl rfl (Nat.le_of_ble_eq_true rfl) dX6_init_9 (fun H locs hP hD hS => ?_)
  have hP : va_P D xCl [(h0, .inr (8, [.ref q_1, .null, .null, .null, .null, .null, .null, .null, .int 0])), (q_1, .inl (K 0, 6, .inl (fun _ => 0)))] H := hP
  have hD : va_D A [(h0, .inr (8, [.ref q_1, .null, .null, .null, .null, .null, .null, .null, .int 0])), (q_1, .inl (K 0, 6, .inl (fun _ => 0)))] := hD
  refine lv_aload_n hx hb dX6_init_12 rfl (lv_at hl 0 rfl) ?_
  refine lv_bipush (v := 6) hx hb dX6_init_13 (by decide) ?_
  refine va_newa (atype := .int) (ty := .int) (N' := 6) (a0 := (6, .inl (fun _ => 0))) hx hb (hts _ xw2_21) rfl hK hP hD hS hA (fun _ => rfl) (by decide) (by decide) (by decide) (Nat.le_of_ble_eq_true rfl) (Nat.le_of_ble_eq_true rfl) dX6_init_15 (fun q_3 cA_4 H hK9 hP hD hS => ?_)
  obtain rfl := xKu hK9 0 rfl
  have hP : va_P D xCl [(h0, .inr (8, [.ref q_1, .null, .null, .null, .null, .null, .null, .null, .int 0])), (q_1, .inl (K 0, 6, .inl (fun _ => 0))), (q_3, .inl (K 0, 6, .inl (fun _ => 0)))] H := hP
  have hD : va_D A [(h0, .inr (8, [.ref q_1, .null, .null, .null, .null, .null, .null, .null, .int 0])), (q_1, .inl (K 0, 6, .inl (fun _ => 0))), (q_3, .inl (K 0, 6, .inl (fun _ => 0)))] := hD
  refine W.widen (k := 2) (n := 12) (Nat.le_of_ble_eq_true rfl) (Nat.le_of_ble_eq_true rfl) ?_
  refine va_putF (D := D) (ci := 8) (v := .ref q_3) (ty := (.array .int)) (C := RX6) (T := TX6) (N := 9) hx hb hts inlX6 tyX6 tyX6_ok nmX6 hown hK hP hD hS 0 rfl rfl 1 (by decide) (hts _ xw4_1) (fun _ h9 => h9) rfl hin rfl (by decide +kernel) rfl rfl (Nat.le_of_ble_eq_true rfl) dX6_init_17 (fun H locs hP hD hS => ?_)
  have hP : va_P D xCl [(h0, .inr (8, [.ref q_1, .ref q_3, .null, .null, .null, .null, .null, .null, .int 0])), (q_1, .inl (K 0, 6, .inl (fun _ => 0))), (q_3, .inl (K 0, 6, .inl (fun _ => 0)))] H := hP
  have hD : va_D A [(h0, .inr (8, [.ref q_1, .ref q_3, .null, .null, .null, .null, .null, .null, .int 0])), (q_1, .inl (K 0, 6, .inl (fun _ => 0))), (q_3, .inl (K 0, 6, .inl (fun _ => 0)))] := hD
  refine lv_aload_n hx hb dX6_init_20 rfl (lv_at hl 0 rfl) ?_
  refine lv_bipush (v := 6) hx hb dX6_init_21 (by decide) ?_
  refine va_newa (atype := .int) (ty := .int) (N' := 6) (a0 := (6, .inl (fun _ => 0))) hx hb (hts _ xw2_21) rfl hK hP hD hS hA (fun _ => rfl) (by decide) (by decide) (by decide) (Nat.le_of_ble_eq_true rfl) (Nat.le_of_ble_eq_true rfl) dX6_init_23 (fun q_5 cA_6 H hK9 hP hD hS => ?_)
  obtain rfl := xKu hK9 0 rfl
  have hP : va_P D xCl [(h0, .inr (8, [.ref q_1, .ref q_3, .null, .null, .null, .null, .null, .null, .int 0])), (q_1, .inl (K 0, 6, .inl (fun _ => 0))), (q_3, .inl (K 0, 6, .inl (fun _ => 0))), (q_5, .inl (K 0, 6, .inl (fun _ => 0)))] H := hP
  have hD : va_D A [(h0, .inr (8, [.ref q_1, .ref q_3, .null, .null, .null, .null, .null, .null, .int 0])), (q_1, .inl (K 0, 6, .inl (fun _ => 0))), (q_3, .inl (K 0, 6, .inl (fun _ => 0))), (q_5, .inl (K 0, 6, .inl (fun _ => 0)))] := hD
  refine W.widen (k := 3) (n := 18) (Nat.le_of_ble_eq_true rfl) (Nat.le_of_ble_eq_true rfl) ?_
  refine va_putF (D := D) (ci := 8) (v := .ref q_5) (ty := (.array .int)) (C := RX6) (T := TX6) (N := 9) hx hb hts inlX6 tyX6 tyX6_ok nmX6 hown hK hP hD hS 0 rfl rfl 2 (by decide) (hts _ xw4_2) (fun _ h9 => h9) rfl hin rfl (by decide +kernel) rfl rfl (Nat.le_of_ble_eq_true rfl) dX6_init_25 (fun H locs hP hD hS => ?_)
  have hP : va_P D xCl [(h0, .inr (8, [.ref q_1, .ref q_3, .ref q_5, .null, .null, .null, .null, .null, .int 0])), (q_1, .inl (K 0, 6, .inl (fun _ => 0))), (q_3, .inl (K 0, 6, .inl (fun _ => 0))), (q_5, .inl (K 0, 6, .inl (fun _ => 0)))] H := hP
  have hD : va_D A [(h0, .inr (8, [.ref q_1, .ref q_3, .ref q_5, .null, .null, .null, .null, .null, .int 0])), (q_1, .inl (K 0, 6, .inl (fun _ => 0))), (q_3, .inl (K 0, 6, .inl (fun _ => 0))), (q_5, .inl (K 0, 6, .inl (fun _ => 0)))] := hD
  refine lv_aload_n hx hb dX6_init_28 rfl (lv_at hl 0 rfl) ?_
  refine lv_bipush (v := 6) hx hb dX6_init_29 (by decide) ?_
  refine va_newa (atype := .int) (ty := .int) (N' := 6) (a0 := (6, .inl (fun _ => 0))) hx hb (hts _ xw2_21) rfl hK hP hD hS hA (fun _ => rfl) (by decide) (by decide) (by decide) (Nat.le_of_ble_eq_true rfl) (Nat.le_of_ble_eq_true rfl) dX6_init_31 (fun q_7 cA_8 H hK9 hP hD hS => ?_)
  obtain rfl := xKu hK9 0 rfl
  have hP : va_P D xCl [(h0, .inr (8, [.ref q_1, .ref q_3, .ref q_5, .null, .null, .null, .null, .null, .int 0])), (q_1, .inl (K 0, 6, .inl (fun _ => 0))), (q_3, .inl (K 0, 6, .inl (fun _ => 0))), (q_5, .inl (K 0, 6, .inl (fun _ => 0))), (q_7, .inl (K 0, 6, .inl (fun _ => 0)))] H := hP
  have hD : va_D A [(h0, .inr (8, [.ref q_1, .ref q_3, .ref q_5, .null, .null, .null, .null, .null, .int 0])), (q_1, .inl (K 0, 6, .inl (fun _ => 0))), (q_3, .inl (K 0, 6, .inl (fun _ => 0))), (q_5, .inl (K 0, 6, .inl (fun _ => 0))), (q_7, .inl (K 0, 6, .inl (fun _ => 0)))] := hD
  refine W.widen (k := 4) (n := 24) (Nat.le_of_ble_eq_true rfl) (Nat.le_of_ble_eq_true rfl) ?_
  refine va_putF (D := D) (ci := 8) (v := .ref q_7) (ty := (.array .int)) (C := RX6) (T := TX6) (N := 9) hx hb hts inlX6 tyX6 tyX6_ok nmX6 hown hK hP hD hS 0 rfl rfl 3 (by decide) (hts _ xw4_3) (fun _ h9 => h9) rfl hin rfl (by decide +kernel) rfl rfl (Nat.le_of_ble_eq_true rfl) dX6_init_33 (fun H locs hP hD hS => ?_)
  have hP : va_P D xCl [(h0, .inr (8, [.ref q_1, .ref q_3, .ref q_5, .ref q_7, .null, .null, .null, .null, .int 0])), (q_1, .inl (K 0, 6, .inl (fun _ => 0))), (q_3, .inl (K 0, 6, .inl (fun _ => 0))), (q_5, .inl (K 0, 6, .inl (fun _ => 0))), (q_7, .inl (K 0, 6, .inl (fun _ => 0)))] H := hP
  have hD : va_D A [(h0, .inr (8, [.ref q_1, .ref q_3, .ref q_5, .ref q_7, .null, .null, .null, .null, .int 0])), (q_1, .inl (K 0, 6, .inl (fun _ => 0))), (q_3, .inl (K 0, 6, .inl (fun _ => 0))), (q_5, .inl (K 0, 6, .inl (fun _ => 0))), (q_7, .inl (K 0, 6, .inl (fun _ => 0)))] := hD
  refine lv_aload_n hx hb dX6_init_36 rfl (lv_at hl 0 rfl) ?_
  refine lv_bipush (v := 6) hx hb dX6_init_37 (by decide) ?_
  refine va_newa (atype := .int) (ty := .int) (N' := 6) (a0 := (6, .inl (fun _ => 0))) hx hb (hts _ xw2_21) rfl hK hP hD hS hA (fun _ => rfl) (by decide) (by decide) (by decide) (Nat.le_of_ble_eq_true rfl) (Nat.le_of_ble_eq_true rfl) dX6_init_39 (fun q_9 cA_10 H hK9 hP hD hS => ?_)
  obtain rfl := xKu hK9 0 rfl
  have hP : va_P D xCl [(h0, .inr (8, [.ref q_1, .ref q_3, .ref q_5, .ref q_7, .null, .null, .null, .null, .int 0])), (q_1, .inl (K 0, 6, .inl (fun _ => 0))), (q_3, .inl (K 0, 6, .inl (fun _ => 0))), (q_5, .inl (K 0, 6, .inl (fun _ => 0))), (q_7, .inl (K 0, 6, .inl (fun _ => 0))), (q_9, .inl (K 0, 6, .inl (fun _ => 0)))] H := hP
  have hD : va_D A [(h0, .inr (8, [.ref q_1, .ref q_3, .ref q_5, .ref q_7, .null, .null, .null, .null, .int 0])), (q_1, .inl (K 0, 6, .inl (fun _ => 0))), (q_3, .inl (K 0, 6, .inl (fun _ => 0))), (q_5, .inl (K 0, 6, .inl (fun _ => 0))), (q_7, .inl (K 0, 6, .inl (fun _ => 0))), (q_9, .inl (K 0, 6, .inl (fun _ => 0)))] := hD
  refine W.widen (k := 5) (n := 30) (Nat.le_of_ble_eq_true rfl) (Nat.le_of_ble_eq_true rfl) ?_
  refine va_putF (D := D) (ci := 8) (v := .ref q_9) (ty := (.array .int)) (C := RX6) (T := TX6) (N := 9) hx hb hts inlX6 tyX6 tyX6_ok nmX6 hown hK hP hD hS 0 rfl rfl 4 (by decide) (hts _ xw4_4) (fun _ h9 => h9) rfl hin rfl (by decide +kernel) rfl rfl (Nat.le_of_ble_eq_true rfl) dX6_init_41 (fun H locs hP hD hS => ?_)
  have hP : va_P D xCl [(h0, .inr (8, [.ref q_1, .ref q_3, .ref q_5, .ref q_7, .ref q_9, .null, .null, .null, .int 0])), (q_1, .inl (K 0, 6, .inl (fun _ => 0))), (q_3, .inl (K 0, 6, .inl (fun _ => 0))), (q_5, .inl (K 0, 6, .inl (fun _ => 0))), (q_7, .inl (K 0, 6, .inl (fun _ => 0))), (q_9, .inl (K 0, 6, .inl (fun _ => 0)))] H := hP
  have hD : va_D A [(h0, .inr (8, [.ref q_1, .ref q_3, .ref q_5, .ref q_7, .ref q_9, .null, .null, .null, .int 0])), (q_1, .inl (K 0, 6, .inl (fun _ => 0))), (q_3, .inl (K 0, 6, .inl (fun _ => 0))), (q_5, .inl (K 0, 6, .inl (fun _ => 0))), (q_7, .inl (K 0, 6, .inl (fun _ => 0))), (q_9, .inl (K 0, 6, .inl (fun _ => 0)))] := hD
  refine lv_aload_n hx hb dX6_init_44 rfl (lv_at hl 0 rfl) ?_
  refine lv_bipush (v := 6) hx hb dX6_init_45 (by decide) ?_
  refine va_newa (atype := .int) (ty := .int) (N' := 6) (a0 := (6, .inl (fun _ => 0))) hx hb (hts _ xw2_21) rfl hK hP hD hS hA (fun _ => rfl) (by decide) (by decide) (by decide) (Nat.le_of_ble_eq_true rfl) (Nat.le_of_ble_eq_true rfl) dX6_init_47 (fun q_11 cA_12 H hK9 hP hD hS => ?_)
  obtain rfl := xKu hK9 0 rfl
  have hP : va_P D xCl [(h0, .inr (8, [.ref q_1, .ref q_3, .ref q_5, .ref q_7, .ref q_9, .null, .null, .null, .int 0])), (q_1, .inl (K 0, 6, .inl (fun _ => 0))), (q_3, .inl (K 0, 6, .inl (fun _ => 0))), (q_5, .inl (K 0, 6, .inl (fun _ => 0))), (q_7, .inl (K 0, 6, .inl (fun _ => 0))), (q_9, .inl (K 0, 6, .inl (fun _ => 0))), (q_11, .inl (K 0, 6, .inl (fun _ => 0)))] H := hP
  have hD : va_D A [(h0, .inr (8, [.ref q_1, .ref q_3, .ref q_5, .ref q_7, .ref q_9, .null, .null, .null, .int 0])), (q_1, .inl (K 0, 6, .inl (fun _ => 0))), (q_3, .inl (K 0, 6, .inl (fun _ => 0))), (q_5, .inl (K 0, 6, .inl (fun _ => 0))), (q_7, .inl (K 0, 6, .inl (fun _ => 0))), (q_9, .inl (K 0, 6, .inl (fun _ => 0))), (q_11, .inl (K 0, 6, .inl (fun _ => 0)))] := hD
  refine W.widen (k := 6) (n := 36) (Nat.le_of_ble_eq_true rfl) (Nat.le_of_ble_eq_true rfl) ?_
  refine va_putF (D := D) (ci := 8) (v := .ref q_11) (ty := (.array .int)) (C := RX6) (T := TX6) (N := 9) hx hb hts inlX6 tyX6 tyX6_ok nmX6 hown hK hP hD hS 0 rfl rfl 5 (by decide) (hts _ xw4_5) (fun _ h9 => h9) rfl hin rfl (by decide +kernel) rfl rfl (Nat.le_of_ble_eq_true rfl) dX6_init_49 (fun H locs hP hD hS => ?_)
  have hP : va_P D xCl [(h0, .inr (8, [.ref q_1, .ref q_3, .ref q_5, .ref q_7, .ref q_9, .ref q_11, .null, .null, .int 0])), (q_1, .inl (K 0, 6, .inl (fun _ => 0))), (q_3, .inl (K 0, 6, .inl (fun _ => 0))), (q_5, .inl (K 0, 6, .inl (fun _ => 0))), (q_7, .inl (K 0, 6, .inl (fun _ => 0))), (q_9, .inl (K 0, 6, .inl (fun _ => 0))), (q_11, .inl (K 0, 6, .inl (fun _ => 0)))] H := hP
  have hD : va_D A [(h0, .inr (8, [.ref q_1, .ref q_3, .ref q_5, .ref q_7, .ref q_9, .ref q_11, .null, .null, .int 0])), (q_1, .inl (K 0, 6, .inl (fun _ => 0))), (q_3, .inl (K 0, 6, .inl (fun _ => 0))), (q_5, .inl (K 0, 6, .inl (fun _ => 0))), (q_7, .inl (K 0, 6, .inl (fun _ => 0))), (q_9, .inl (K 0, 6, .inl (fun _ => 0))), (q_11, .inl (K 0, 6, .inl (fun _ => 0)))] := hD
  refine lv_aload_n hx hb dX6_init_52 rfl (lv_at hl 0 rfl) ?_
  refine lv_bipush (v := 6) hx hb dX6_init_53 (by decide) ?_
  refine va_newa (atype := .char) (ty := .char) (N' := 6) (a0 := (6, .inl (fun _ => 0))) hx hb (hts _ xw4_6) rfl hK hP hD hS hA (fun _ => rfl) (by decide) (by decide) (by decide) (Nat.le_of_ble_eq_true rfl) (Nat.le_of_ble_eq_true rfl) dX6_init_55 (fun q_13 cA_14 H hK9 hP hD hS => ?_)
  obtain rfl := xKu hK9 2 rfl
  have hP : va_P D xCl [(h0, .inr (8, [.ref q_1, .ref q_3, .ref q_5, .ref q_7, .ref q_9, .ref q_11, .null, .null, .int 0])), (q_1, .inl (K 0, 6, .inl (fun _ => 0))), (q_3, .inl (K 0, 6, .inl (fun _ => 0))), (q_5, .inl (K 0, 6, .inl (fun _ => 0))), (q_7, .inl (K 0, 6, .inl (fun _ => 0))), (q_9, .inl (K 0, 6, .inl (fun _ => 0))), (q_11, .inl (K 0, 6, .inl (fun _ => 0))), (q_13, .inl (K 2, 6, .inl (fun _ => 0)))] H := hP
  have hD : va_D A [(h0, .inr (8, [.ref q_1, .ref q_3, .ref q_5, .ref q_7, .ref q_9, .ref q_11, .null, .null, .int 0])), (q_1, .inl (K 0, 6, .inl (fun _ => 0))), (q_3, .inl (K 0, 6, .inl (fun _ => 0))), (q_5, .inl (K 0, 6, .inl (fun _ => 0))), (q_7, .inl (K 0, 6, .inl (fun _ => 0))), (q_9, .inl (K 0, 6, .inl (fun _ => 0))), (q_11, .inl (K 0, 6, .inl (fun _ => 0))), (q_13, .inl (K 2, 6, .inl (fun _ => 0)))] := hD
  refine W.widen (k := 7) (n := 42) (Nat.le_of_ble_eq_true rfl) (Nat.le_of_ble_eq_true rfl) ?_
  refine va_putF (D := D) (ci := 8) (v := .ref q_13) (ty := (.array .char)) (C := RX6) (T := TX6) (N := 9) hx hb hts inlX6 tyX6 tyX6_ok nmX6 hown hK hP hD hS 0 rfl rfl 6 (by decide) (hts _ xw4_7) (fun _ h9 => h9) rfl hin rfl (by decide +kernel) rfl rfl (Nat.le_of_ble_eq_true rfl) dX6_init_57 (fun H locs hP hD hS => ?_)
  have hP : va_P D xCl [(h0, .inr (8, [.ref q_1, .ref q_3, .ref q_5, .ref q_7, .ref q_9, .ref q_11, .ref q_13, .null, .int 0])), (q_1, .inl (K 0, 6, .inl (fun _ => 0))), (q_3, .inl (K 0, 6, .inl (fun _ => 0))), (q_5, .inl (K 0, 6, .inl (fun _ => 0))), (q_7, .inl (K 0, 6, .inl (fun _ => 0))), (q_9, .inl (K 0, 6, .inl (fun _ => 0))), (q_11, .inl (K 0, 6, .inl (fun _ => 0))), (q_13, .inl (K 2, 6, .inl (fun _ => 0)))] H := hP
  have hD : va_D A [(h0, .inr (8, [.ref q_1, .ref q_3, .ref q_5, .ref q_7, .ref q_9, .ref q_11, .ref q_13, .null, .int 0])), (q_1, .inl (K 0, 6, .inl (fun _ => 0))), (q_3, .inl (K 0, 6, .inl (fun _ => 0))), (q_5, .inl (K 0, 6, .inl (fun _ => 0))), (q_7, .inl (K 0, 6, .inl (fun _ => 0))), (q_9, .inl (K 0, 6, .inl (fun _ => 0))), (q_11, .inl (K 0, 6, .inl (fun _ => 0))), (q_13, .inl (K 2, 6, .inl (fun _ => 0)))] := hD
  refine lv_aload_n hx hb dX6_init_60 rfl (lv_at hl 0 rfl) ?_
  refine lv_bipush (v := 12) hx hb dX6_init_61 (by decide) ?_
  refine va_newa (atype := .int) (ty := .int) (N' := 12) (a0 := (12, .inl (fun _ => 0))) hx hb (hts _ xw2_21) rfl hK hP hD hS hA (fun _ => rfl) (by decide) (by decide) (by decide) (Nat.le_of_ble_eq_true rfl) (Nat.le_of_ble_eq_true rfl) dX6_init_63 (fun q_15 cA_16 H hK9 hP hD hS => ?_)
  obtain rfl := xKu hK9 0 rfl
  have hP : va_P D xCl [(h0, .inr (8, [.ref q_1, .ref q_3, .ref q_5, .ref q_7, .ref q_9, .ref q_11, .ref q_13, .null, .int 0])), (q_1, .inl (K 0, 6, .inl (fun _ => 0))), (q_3, .inl (K 0, 6, .inl (fun _ => 0))), (q_5, .inl (K 0, 6, .inl (fun _ => 0))), (q_7, .inl (K 0, 6, .inl (fun _ => 0))), (q_9, .inl (K 0, 6, .inl (fun _ => 0))), (q_11, .inl (K 0, 6, .inl (fun _ => 0))), (q_13, .inl (K 2, 6, .inl (fun _ => 0))), (q_15, .inl (K 0, 12, .inl (fun _ => 0)))] H := hP
  have hD : va_D A [(h0, .inr (8, [.ref q_1, .ref q_3, .ref q_5, .ref q_7, .ref q_9, .ref q_11, .ref q_13, .null, .int 0])), (q_1, .inl (K 0, 6, .inl (fun _ => 0))), (q_3, .inl (K 0, 6, .inl (fun _ => 0))), (q_5, .inl (K 0, 6, .inl (fun _ => 0))), (q_7, .inl (K 0, 6, .inl (fun _ => 0))), (q_9, .inl (K 0, 6, .inl (fun _ => 0))), (q_11, .inl (K 0, 6, .inl (fun _ => 0))), (q_13, .inl (K 2, 6, .inl (fun _ => 0))), (q_15, .inl (K 0, 12, .inl (fun _ => 0)))] := hD
  refine W.widen (k := 8) (n := 54) (Nat.le_of_ble_eq_true rfl) (Nat.le_of_ble_eq_true rfl) ?_
  refine va_putF (D := D) (ci := 8) (v := .ref q_15) (ty := (.array .int)) (C := RX6) (T := TX6) (N := 9) hx hb hts inlX6 tyX6 tyX6_ok nmX6 hown hK hP hD hS 0 rfl rfl 7 (by decide) (hts _ xw4_8) (fun _ h9 => h9) rfl hin rfl (by decide +kernel) rfl rfl (Nat.le_of_ble_eq_true rfl) dX6_init_65 (fun H locs hP hD hS => ?_)
  have hP : va_P D xCl [(h0, .inr (8, [.ref q_1, .ref q_3, .ref q_5, .ref q_7, .ref q_9, .ref q_11, .ref q_13, .ref q_15, .int 0])), (q_1, .inl (K 0, 6, .inl (fun _ => 0))), (q_3, .inl (K 0, 6, .inl (fun _ => 0))), (q_5, .inl (K 0, 6, .inl (fun _ => 0))), (q_7, .inl (K 0, 6, .inl (fun _ => 0))), (q_9, .inl (K 0, 6, .inl (fun _ => 0))), (q_11, .inl (K 0, 6, .inl (fun _ => 0))), (q_13, .inl (K 2, 6, .inl (fun _ => 0))), (q_15, .inl (K 0, 12, .inl (fun _ => 0)))] H := hP
  have hD : va_D A [(h0, .inr (8, [.ref q_1, .ref q_3, .ref q_5, .ref q_7, .ref q_9, .ref q_11, .ref q_13, .ref q_15, .int 0])), (q_1, .inl (K 0, 6, .inl (fun _ => 0))), (q_3, .inl (K 0, 6, .inl (fun _ => 0))), (q_5, .inl (K 0, 6, .inl (fun _ => 0))), (q_7, .inl (K 0, 6, .inl (fun _ => 0))), (q_9, .inl (K 0, 6, .inl (fun _ => 0))), (q_11, .inl (K 0, 6, .inl (fun _ => 0))), (q_13, .inl (K 2, 6, .inl (fun _ => 0))), (q_15, .inl (K 0, 12, .inl (fun _ => 0)))] := hD
  have hP9 : va_P D xCl [(h0, .inr (8, [.ref q_1, .ref q_3, .ref q_5, .ref q_7, .ref q_9, .ref q_11, .ref q_13, .ref q_15, .int 0]))] H := hP.sub [0] rfl
  have hD9 : va_D A [(h0, .inr (8, [.ref q_1, .ref q_3, .ref q_5, .ref q_7, .ref q_9, .ref q_11, .ref q_13, .ref q_15, .int 0]))] := hD.sub [0] (by decide) rfl
  refine W.widen (k := 8) (n := 54) (Nat.le_of_ble_eq_true rfl) (Nat.le_of_ble_eq_true rfl) ?_
  exact W.vret hx hb hr (fun t ht hW => ⟨⟨(fun k => [q_1, q_3, q_5, q_7, q_9, q_11, q_13, q_15].getD k 0), rfl, trivial, by rw [ht]; exact hP9, hD9⟩, hS.F ht⟩) hS.2.2 dX6_init_68
set_option maxHeartbeats 4000000 in
set_option maxRecDepth 100000 in
theorem c_X1_init (l : Launch) (D : va_G) (K : Nat → ClassId) (h0 h1 : Nat) (sz : Nat) : Met l yX1_init [.code yX1_init cX1_init 3 none] ({ frames := 2, cells := 55, slots := 384, locals := 32 }) (xPre D K [.ref h0, .ref h1] [(h0, .inr (3, [.null, .null, .int 0]))] sz) (va_Qv (fun (u : Nat → Nat) => True) (fun u t => xW D (va_A [(h0, .inr (3, [.null, .null, .int 0]))] sz) ((fun (u : Nat → Nat) => [(h0, .inr (3, [.ref h1, .ref (u 0), .int 0]))]) u) t) (va_A [(h0, .inr (3, [.null, .null, .int 0]))] sz)) 55 384 (va_A [(h0, .inr (3, [.null, .null, .int 0]))] sz) := by
  refine Met.ofW (cc := cX1_init) (maxL := 3) (ret := none) (by decide) rfl ?_
  intro p e s m args below meth c s₁ B hml hv
  obtain ⟨rfl, hsz, hP, hD0, hE⟩ := hv
  have hx := B.exec
  have hb := B.bytes
  have hr := B.returns
  have hlocks := B.notSynchronized
  have hts := hE.1.ts ([.ref h0, .ref h1] : List Value).toArray
  have hnt := hE.1.nt ([.ref h0, .ref h1] : List Value).toArray
  have hK := hE.2.1
  have hown : s.vm.findClass RX1 = some m.cls := findClass_of_methodNamed B.named
  have hin : meth.name = "<init>" := (name_of_methodNamed B.named B.method).1
  subst hsz
  have hD := hD0.self (sz := s.heap.size)
  generalize hAe : va_A [(h0, .inr (3, [.null, .null, .int 0]))] s.heap.size = A at hD hE ⊢
  have hA : ∀ q : Nat, s.heap.size ≤ q → A q := fun q h => by rw [← hAe]; exact Or.inr h
  have hl := lv_entry ([.ref h0, .ref h1]) (n := 3) (Nat.le_of_ble_eq_true rfl)
  rw [lg_entry_eq]
  generalize (lg_sl ([.ref h0, .ref h1]) ++ List.replicate (3 - (lg_sl ([.ref h0, .ref h1])).length) Slot.unset).toArray = ls at hl ⊢
  have hl : lv_has ls 3 [(0, .ref h0), (1, .ref h1)] := hl
  generalize hH : s.heap = H at hP ⊢
  have hS : va_S A s.heap H [] := by rw [← hH]; exact va_S.rf
  refine lv_aload_n hx hb dX1_init_0 rfl (lv_at hl 0 rfl) ?_
  refine W.objInit hx hb hown (hts _ xw3_15) (hts _ xw1_12) (hts _ xw1_13) rfl (by rw [hml]; exact hl.1) rfl dX1_init_1 (Nat.le_of_ble_eq_true rfl) (Nat.le_of_ble_eq_true rfl) ?_
  refine W.eq (g2 := F0 m 4 ls []) rfl ?_
  refine lv_aload_n hx hb dX1_init_4 rfl (lv_at hl 0 rfl) ?_
  refine lv_bipush (v := 6) hx hb dX1_init_5 (by decide) ?_
  refine va_newq (C := RX6) (N' := 6) hx hb hown (hts _ xw3_16) hE.1.2.2.2.2.2.1 hK hP hD hS hA (by decide) (by decide) (by decide) (Nat.le_of_ble_eq_true rfl) (Nat.le_of_ble_eq_true rfl) dX1_init_7 (fun q_1 cA_2 H hK9 hP hD hS => ?_)
  obtain rfl := xKu hK9 5 rfl
  have hP : va_P D xCl [(h0, .inr (3, [.null, .null, .int 0])), (q_1, .inl (K 5, 6, .inr (.inr (.inr (.inr (fun _ => none))))))] H := hP
  have hD : va_D A [(h0, .inr (3, [.null, .null, .int 0])), (q_1, .inl (K 5, 6, .inr (.inr (.inr (.inr (fun _ => none))))))] := hD
  refine W.widen (k := 1) (n := 6) (Nat.le_of_ble_eq_true rfl) (Nat.le_of_ble_eq_true rfl) ?_
  refine va_putF (D := D) (ci := 3) (v := .ref q_1) (ty := (.array (.object "Debatetab$Round"))) (C := RX1) (T := TX1) (N := 3) hx hb hts inlX1 tyX1 tyX1_ok nmX1 hown hK hP hD hS 0 rfl rfl 1 (by decide) (hts _ xw3_17) (fun _ h9 => h9) rfl hin rfl (by decide +kernel) rfl rfl (Nat.le_of_ble_eq_true rfl) dX1_init_10 (fun H locs hP hD hS => ?_)
  have hP : va_P D xCl [(h0, .inr (3, [.null, .ref q_1, .int 0])), (q_1, .inl (K 5, 6, .inr (.inr (.inr (.inr (fun _ => none))))))] H := hP
  have hD : va_D A [(h0, .inr (3, [.null, .ref q_1, .int 0])), (q_1, .inl (K 5, 6, .inr (.inr (.inr (.inr (fun _ => none))))))] := hD
  refine lv_aload_n hx hb dX1_init_13 rfl (lv_at hl 0 rfl) ?_
  refine lv_aload_n hx hb dX1_init_14 rfl (lv_at hl 1 rfl) ?_
  refine va_putF (D := D) (ci := 3) (v := .ref h1) (ty := (.object "Debatetab$Roster")) (C := RX1) (T := TX1) (N := 3) hx hb hts inlX1 tyX1 tyX1_ok nmX1 hown hK hP hD hS 0 rfl rfl 0 (by decide) (hts _ xw3_18) (fun _ h9 => h9) rfl hin rfl (by decide +kernel) rfl rfl (Nat.le_of_ble_eq_true rfl) dX1_init_15 (fun H locs hP hD hS => ?_)
  have hP : va_P D xCl [(h0, .inr (3, [.ref h1, .ref q_1, .int 0])), (q_1, .inl (K 5, 6, .inr (.inr (.inr (.inr (fun _ => none))))))] H := hP
  have hD : va_D A [(h0, .inr (3, [.ref h1, .ref q_1, .int 0])), (q_1, .inl (K 5, 6, .inr (.inr (.inr (.inr (fun _ => none))))))] := hD
  refine lv_iconst (v := 0) hx hb dX1_init_18 (by decide) ?_
  refine lv_istore_n (lv' := [(2, .int 0), (0, .ref h0), (1, .ref h1)]) hx hb dX1_init_19 rfl hl (by decide) rfl (fun ls hl => ?_)
  refine lv_iload_n hx hb dX1_init_20 rfl (lv_at hl 0 rfl) ?_
  refine lv_bipush (v := 6) hx hb dX1_init_21 (by decide) ?_
  refine lv_icmp_ge (tgt := 45) hx hb dX1_init_23 (by decide) (fun c_3 => absurd c_3 (by decide)) (fun _ => ?_)
  refine lv_aload_n hx hb dX1_init_26 rfl (lv_at hl 1 rfl) ?_
  refine va_get (D := D) (ci := 3) (v := .ref q_1) (C := RX1) (T := TX1) (N := 3) hx hb hts inlX1 hown hK hP 0 rfl rfl 1 (by decide) (hts _ xw3_17) (fun _ h9 => h9) rfl dX1_init_27 ?_
  refine lv_iload_n hx hb dX1_init_30 rfl (lv_at hl 0 rfl) ?_
  refine va_new (ci := 8) (fs := [.null, .null, .null, .null, .null, .null, .null, .null, .int 0]) (C := RX6) (T := TX6) (N := 9) hx hb hts inlX6 tyX6 tyX6_ok hown (hts _ xw3_16) (hts _ xw3_19) (hts _ xw3_20) hK hP hD hS hA rfl (by decide +kernel) (Nat.le_of_ble_eq_true rfl) (Nat.le_of_ble_eq_true rfl) dX1_init_31 (fun q_4 H hP hD hS => ?_)
  have hP : va_P D xCl [(h0, .inr (3, [.ref h1, .ref q_1, .int 0])), (q_1, .inl (K 5, 6, .inr (.inr (.inr (.inr (fun _ => none)))))), (q_4, .inr (8, [.null, .null, .null, .null, .null, .null, .null, .null, .int 0]))] H := hP
  have hD : va_D A [(h0, .inr (3, [.ref h1, .ref q_1, .int 0])), (q_1, .inl (K 5, 6, .inr (.inr (.inr (.inr (fun _ => none)))))), (q_4, .inr (8, [.null, .null, .null, .null, .null, .null, .null, .null, .int 0]))] := hD
  refine W.widen (k := 2) (n := 15) (Nat.le_of_ble_eq_true rfl) (Nat.le_of_ble_eq_true rfl) ?_
  refine lv_dup hx hb dX1_init_34 rfl ?_
  have hF := va_free (wc := [(q_4, .inr (8, [.null, .null, .null, .null, .null, .null, .null, .null, .int 0]))]) hD hS hA [2] rfl
  refine xk_v (w1 := fun (u : Nat → Nat) => [(q_4, .inr (8, [.ref (u 0), .ref (u 1), .ref (u 2), .ref (u 3), .ref (u 4), .ref (u 5), .ref (u 6), .ref (u 7), .int 0]))]) (wc := [(q_4, .inr (8, [.null, .null, .null, .null, .null, .null, .null, .null, .int 0]))]) (wr := [(h0, .inr (3, [.ref h1, .ref q_1, .int 0])), (q_1, .inl (K 5, 6, .inr (.inr (.inr (.inr (fun _ => none))))))]) (va_runIN (As := []) (rest := [.ref q_4, .int 0, .ref q_1]) ⟨hx, hb, hml, hown, hts⟩ (c_X6_init l D K q_4 H.size) ⟨va_cnB 0 hts xg_RX1_X6_init_21 rfl rfl rfl (va_Nw.of rfl (hnt _ xn45)) (hts _ xw3_20) (by decide +kernel) ⟨Nat.le_of_ble_eq_true rfl, Nat.le_of_ble_eq_true rfl⟩, rfl, hts _ xw3_21⟩ ⟨xPre.blind, xPre.call hE hS (hP.sub [2] rfl) (hD.sub [2] (by decide) rfl) hF⟩ rfl rfl hl.1 rfl (lv_room (Nat.le_of_ble_eq_true rfl)) dX1_init_35 ⟨Nat.le_of_ble_eq_true rfl, Nat.le_of_ble_eq_true rfl⟩) hP hD hS hF [2] [0, 1] rfl rfl rfl (by decide) (fun u_5 H locs hw_7 hP hD hS => ?_)
  have hP : va_P D xCl [(h0, .inr (3, [.ref h1, .ref q_1, .int 0])), (q_1, .inl (K 5, 6, .inr (.inr (.inr (.inr (fun _ => none)))))), (q_4, .inr (8, [.ref (u_5 0), .ref (u_5 1), .ref (u_5 2), .ref (u_5 3), .ref (u_5 4), .ref (u_5 5), .ref (u_5 6), .ref (u_5 7), .int 0]))] H := hP
  have hD : va_D A [(h0, .inr (3, [.ref h1, .ref q_1, .int 0])), (q_1, .inl (K 5, 6, .inr (.inr (.inr (.inr (fun _ => none)))))), (q_4, .inr (8, [.ref (u_5 0), .ref (u_5 1), .ref (u_5 2), .ref (u_5 3), .ref (u_5 4), .ref (u_5 5), .ref (u_5 6), .ref (u_5 7), .int 0]))] := hD
  refine W.widen (k := 10) (n := 69) (Nat.le_of_ble_eq_true rfl) (Nat.le_of_ble_eq_true rfl) ?_
  refine va_astq (r := (RX6, TX6, 9)) hx hb hK hP hD hS 1 5 2 8 rfl rfl rfl rfl (by unfold vp_in; decide) dX1_init_38 (fun H locs hP hD hS => ?_)
  have hP : va_P D xCl [(h0, .inr (3, [.ref h1, .ref q_1, .int 0])), (q_1, .inl (K 5, 6, .inr (.inr (.inr (.inr (va_up (fun _ => none) ((0 : Int32).toNatClampNeg) (some q_4))))))), (q_4, .inr (8, [.ref (u_5 0), .ref (u_5 1), .ref (u_5 2), .ref (u_5 3), .ref (u_5 4), .ref (u_5 5), .ref (u_5 6), .ref (u_5 7), .int 0]))] H := hP
  have hD : va_D A [(h0, .inr (3, [.ref h1, .ref q_1, .int 0])), (q_1, .inl (K 5, 6, .inr (.inr (.inr (.inr (va_up (fun _ => none) ((0 : Int32).toNatClampNeg) (some q_4))))))), (q_4, .inr (8, [.ref (u_5 0), .ref (u_5 1), .ref (u_5 2), .ref (u_5 3), .ref (u_5 4), .ref (u_5 5), .ref (u_5 6), .ref (u_5 7), .int 0]))] := hD
  refine lv_iinc (v := 1) (lv' := [(2, .int 1), (0, .ref h0), (1, .ref h1)]) hx hb dX1_init_39 hl (k := 0) rfl (by decide) (by decide) rfl (fun ls hl => ?_)
  refine lv_goto (tgt := 20) hx hb dX1_init_42 (by decide) ?_
  refine lv_iload_n hx hb dX1_init_20 rfl (lv_at hl 0 rfl) ?_
  refine lv_bipush (v := 6) hx hb dX1_init_21 (by decide) ?_
  refine lv_icmp_ge (tgt := 45) hx hb dX1_init_23 (by decide) (fun c_8 => absurd c_8 (by decide)) (fun _ => ?_)
  refine lv_aload_n hx hb dX1_init_26 rfl (lv_at hl 1 rfl) ?_
  refine va_get (D := D) (ci := 3) (v := .ref q_1) (C := RX1) (T := TX1) (N := 3) hx hb hts inlX1 hown hK hP 0 rfl rfl 1 (by decide) (hts _ xw3_17) (fun _ h9 => h9) rfl dX1_init_27 ?_
  refine lv_iload_n hx hb dX1_init_30 rfl (lv_at hl 0 rfl) ?_
  refine va_new (ci := 8) (fs := [.null, .null, .null, .null, .null, .null, .null, .null, .int 0]) (C := RX6) (T := TX6) (N := 9) hx hb hts inlX6 tyX6 tyX6_ok hown (hts _ xw3_16) (hts _ xw3_19) (hts _ xw3_20) hK hP hD hS hA rfl (by decide +kernel) (Nat.le_of_ble_eq_true rfl) (Nat.le_of_ble_eq_true rfl) dX1_init_31 (fun q_9 H hP hD hS => ?_)
  have hP : va_P D xCl [(h0, .inr (3, [.ref h1, .ref q_1, .int 0])), (q_1, .inl (K 5, 6, .inr (.inr (.inr (.inr (va_up (fun _ => none) ((0 : Int32).toNatClampNeg) (some q_4))))))), (q_4, .inr (8, [.ref (u_5 0), .ref (u_5 1), .ref (u_5 2), .ref (u_5 3), .ref (u_5 4), .ref (u_5 5), .ref (u_5 6), .ref (u_5 7), .int 0])), (q_9, .inr (8, [.null, .null, .null, .null, .null, .null, .null, .null, .int 0]))] H := hP
  have hD : va_D A [(h0, .inr (3, [.ref h1, .ref q_1, .int 0])), (q_1, .inl (K 5, 6, .inr (.inr (.inr (.inr (va_up (fun _ => none) ((0 : Int32).toNatClampNeg) (some q_4))))))), (q_4, .inr (8, [.ref (u_5 0), .ref (u_5 1), .ref (u_5 2), .ref (u_5 3), .ref (u_5 4), .ref (u_5 5), .ref (u_5 6), .ref (u_5 7), .int 0])), (q_9, .inr (8, [.null, .null, .null, .null, .null, .null, .null, .null, .int 0]))] := hD
  refine W.widen (k := 11) (n := 78) (Nat.le_of_ble_eq_true rfl) (Nat.le_of_ble_eq_true rfl) ?_
  refine lv_dup hx hb dX1_init_34 rfl ?_
  have hF := va_free (wc := [(q_9, .inr (8, [.null, .null, .null, .null, .null, .null, .null, .null, .int 0]))]) hD hS hA [3] rfl
  refine xk_v (w1 := fun (u : Nat → Nat) => [(q_9, .inr (8, [.ref (u 0), .ref (u 1), .ref (u 2), .ref (u 3), .ref (u 4), .ref (u 5), .ref (u 6), .ref (u 7), .int 0]))]) (wc := [(q_9, .inr (8, [.null, .null, .null, .null, .null, .null, .null, .null, .int 0]))]) (wr := [(h0, .inr (3, [.ref h1, .ref q_1, .int 0])), (q_1, .inl (K 5, 6, .inr (.inr (.inr (.inr (va_up (fun _ => none) ((0 : Int32).toNatClampNeg) (some q_4))))))), (q_4, .inr (8, [.ref (u_5 0), .ref (u_5 1), .ref (u_5 2), .ref (u_5 3), .ref (u_5 4), .ref (u_5 5), .ref (u_5 6), .ref (u_5 7), .int 0]))]) (va_runIN (As := []) (rest := [.ref q_9, .int 1, .ref q_1]) ⟨hx, hb, hml, hown, hts⟩ (c_X6_init l D K q_9 H.size) ⟨va_cnB 0 hts xg_RX1_X6_init_21 rfl rfl rfl (va_Nw.of rfl (hnt _ xn45)) (hts _ xw3_20) (by decide +kernel) ⟨Nat.le_of_ble_eq_true rfl, Nat.le_of_ble_eq_true rfl⟩, rfl, hts _ xw3_21⟩ ⟨xPre.blind, xPre.call hE hS (hP.sub [3] rfl) (hD.sub [3] (by decide) rfl) hF⟩ rfl rfl hl.1 rfl (lv_room (Nat.le_of_ble_eq_true rfl)) dX1_init_35 ⟨Nat.le_of_ble_eq_true rfl, Nat.le_of_ble_eq_true rfl⟩) hP hD hS hF [3] [0, 1, 2] rfl rfl rfl (by decide) (fun u_10 H locs hw_12 hP hD hS => ?_)
  have hP : va_P D xCl [(h0, .inr (3, [.ref h1, .ref q_1, .int 0])), (q_1, .inl (K 5, 6, .inr (.inr (.inr (.inr (va_up (fun _ => none) ((0 : Int32).toNatClampNeg) (some q_4))))))), (q_4, .inr (8, [.ref (u_5 0), .ref (u_5 1), .ref (u_5 2), .ref (u_5 3), .ref (u_5 4), .ref (u_5 5), .ref (u_5 6), .ref (u_5 7), .int 0])), (q_9, .inr (8, [.ref (u_10 0), .ref (u_10 1), .ref (u_10 2), .ref (u_10 3), .ref (u_10 4), .ref (u_10 5), .ref (u_10 6), .ref (u_10 7), .int 0]))] H := hP
  have hD : va_D A [(h0, .inr (3, [.ref h1, .ref q_1, .int 0])), (q_1, .inl (K 5, 6, .inr (.inr (.inr (.inr (va_up (fun _ => none) ((0 : Int32).toNatClampNeg) (some q_4))))))), (q_4, .inr (8, [.ref (u_5 0), .ref (u_5 1), .ref (u_5 2), .ref (u_5 3), .ref (u_5 4), .ref (u_5 5), .ref (u_5 6), .ref (u_5 7), .int 0])), (q_9, .inr (8, [.ref (u_10 0), .ref (u_10 1), .ref (u_10 2), .ref (u_10 3), .ref (u_10 4), .ref (u_10 5), .ref (u_10 6), .ref (u_10 7), .int 0]))] := hD
  refine W.widen (k := 19) (n := 132) (Nat.le_of_ble_eq_true rfl) (Nat.le_of_ble_eq_true rfl) ?_
  refine va_astq (r := (RX6, TX6, 9)) hx hb hK hP hD hS 1 5 3 8 rfl rfl rfl rfl (by unfold vp_in; decide) dX1_init_38 (fun H locs hP hD hS => ?_)
  have hP : va_P D xCl [(h0, .inr (3, [.ref h1, .ref q_1, .int 0])), (q_1, .inl (K 5, 6, .inr (.inr (.inr (.inr (va_up (va_up (fun _ => none) ((0 : Int32).toNatClampNeg) (some q_4)) ((1 : Int32).toNatClampNeg) (some q_9))))))), (q_4, .inr (8, [.ref (u_5 0), .ref (u_5 1), .ref (u_5 2), .ref (u_5 3), .ref (u_5 4), .ref (u_5 5), .ref (u_5 6), .ref (u_5 7), .int 0])), (q_9, .inr (8, [.ref (u_10 0), .ref (u_10 1), .ref (u_10 2), .ref (u_10 3), .ref (u_10 4), .ref (u_10 5), .ref (u_10 6), .ref (u_10 7), .int 0]))] H := hP
  have hD : va_D A [(h0, .inr (3, [.ref h1, .ref q_1, .int 0])), (q_1, .inl (K 5, 6, .inr (.inr (.inr (.inr (va_up (va_up (fun _ => none) ((0 : Int32).toNatClampNeg) (some q_4)) ((1 : Int32).toNatClampNeg) (some q_9))))))), (q_4, .inr (8, [.ref (u_5 0), .ref (u_5 1), .ref (u_5 2), .ref (u_5 3), .ref (u_5 4), .ref (u_5 5), .ref (u_5 6), .ref (u_5 7), .int 0])), (q_9, .inr (8, [.ref (u_10 0), .ref (u_10 1), .ref (u_10 2), .ref (u_10 3), .ref (u_10 4), .ref (u_10 5), .ref (u_10 6), .ref (u_10 7), .int 0]))] := hD
  refine lv_iinc (v := 2) (lv' := [(2, .int 2), (0, .ref h0), (1, .ref h1)]) hx hb dX1_init_39 hl (k := 0) rfl (by decide) (by decide) rfl (fun ls hl => ?_)
  refine lv_goto (tgt := 20) hx hb dX1_init_42 (by decide) ?_
  refine lv_iload_n hx hb dX1_init_20 rfl (lv_at hl 0 rfl) ?_
  refine lv_bipush (v := 6) hx hb dX1_init_21 (by decide) ?_
  refine lv_icmp_ge (tgt := 45) hx hb dX1_init_23 (by decide) (fun c_13 => absurd c_13 (by decide)) (fun _ => ?_)
  refine lv_aload_n hx hb dX1_init_26 rfl (lv_at hl 1 rfl) ?_
  refine va_get (D := D) (ci := 3) (v := .ref q_1) (C := RX1) (T := TX1) (N := 3) hx hb hts inlX1 hown hK hP 0 rfl rfl 1 (by decide) (hts _ xw3_17) (fun _ h9 => h9) rfl dX1_init_27 ?_
  refine lv_iload_n hx hb dX1_init_30 rfl (lv_at hl 0 rfl) ?_
  refine va_new (ci := 8) (fs := [.null, .null, .null, .null, .null, .null, .null, .null, .int 0]) (C := RX6) (T := TX6) (N := 9) hx hb hts inlX6 tyX6 tyX6_ok hown (hts _ xw3_16) (hts _ xw3_19) (hts _ xw3_20) hK hP hD hS hA rfl (by decide +kernel) (Nat.le_of_ble_eq_true rfl) (Nat.le_of_ble_eq_true rfl) dX1_init_31 (fun q_14 H hP hD hS => ?_)
  have hP : va_P D xCl [(h0, .inr (3, [.ref h1, .ref q_1, .int 0])), (q_1, .inl (K 5, 6, .inr (.inr (.inr (.inr (va_up (va_up (fun _ => none) ((0 : Int32).toNatClampNeg) (some q_4)) ((1 : Int32).toNatClampNeg) (some q_9))))))), (q_4, .inr (8, [.ref (u_5 0), .ref (u_5 1), .ref (u_5 2), .ref (u_5 3), .ref (u_5 4), .ref (u_5 5), .ref (u_5 6), .ref (u_5 7), .int 0])), (q_9, .inr (8, [.ref (u_10 0), .ref (u_10 1), .ref (u_10 2), .ref (u_10 3), .ref (u_10 4), .ref (u_10 5), .ref (u_10 6), .ref (u_10 7), .int 0])), (q_14, .inr (8, [.null, .null, .null, .null, .null, .null, .null, .null, .int 0]))] H := hP
  have hD : va_D A [(h0, .inr (3, [.ref h1, .ref q_1, .int 0])), (q_1, .inl (K 5, 6, .inr (.inr (.inr (.inr (va_up (va_up (fun _ => none) ((0 : Int32).toNatClampNeg) (some q_4)) ((1 : Int32).toNatClampNeg) (some q_9))))))), (q_4, .inr (8, [.ref (u_5 0), .ref (u_5 1), .ref (u_5 2), .ref (u_5 3), .ref (u_5 4), .ref (u_5 5), .ref (u_5 6), .ref (u_5 7), .int 0])), (q_9, .inr (8, [.ref (u_10 0), .ref (u_10 1), .ref (u_10 2), .ref (u_10 3), .ref (u_10 4), .ref (u_10 5), .ref (u_10 6), .ref (u_10 7), .int 0])), (q_14, .inr (8, [.null, .null, .null, .null, .null, .null, .null, .null, .int 0]))] := hD
  refine W.widen (k := 20) (n := 141) (Nat.le_of_ble_eq_true rfl) (Nat.le_of_ble_eq_true rfl) ?_
  refine lv_dup hx hb dX1_init_34 rfl ?_
  have hF := va_free (wc := [(q_14, .inr (8, [.null, .null, .null, .null, .null, .null, .null, .null, .int 0]))]) hD hS hA [4] rfl
  refine xk_v (w1 := fun (u : Nat → Nat) => [(q_14, .inr (8, [.ref (u 0), .ref (u 1), .ref (u 2), .ref (u 3), .ref (u 4), .ref (u 5), .ref (u 6), .ref (u 7), .int 0]))]) (wc := [(q_14, .inr (8, [.null, .null, .null, .null, .null, .null, .null, .null, .int 0]))]) (wr := [(h0, .inr (3, [.ref h1, .ref q_1, .int 0])), (q_1, .inl (K 5, 6, .inr (.inr (.inr (.inr (va_up (va_up (fun _ => none) ((0 : Int32).toNatClampNeg) (some q_4)) ((1 : Int32).toNatClampNeg) (some q_9))))))), (q_4, .inr (8, [.ref (u_5 0), .ref (u_5 1), .ref (u_5 2), .ref (u_5 3), .ref (u_5 4), .ref (u_5 5), .ref (u_5 6), .ref (u_5 7), .int 0])), (q_9, .inr (8, [.ref (u_10 0), .ref (u_10 1), .ref (u_10 2), .ref (u_10 3), .ref (u_10 4), .ref (u_10 5), .ref (u_10 6), .ref (u_10 7), .int 0]))]) (va_runIN (As := []) (rest := [.ref q_14, .int 2, .ref q_1]) ⟨hx, hb, hml, hown, hts⟩ (c_X6_init l D K q_14 H.size) ⟨va_cnB 0 hts xg_RX1_X6_init_21 rfl rfl rfl (va_Nw.of rfl (hnt _ xn45)) (hts _ xw3_20) (by decide +kernel) ⟨Nat.le_of_ble_eq_true rfl, Nat.le_of_ble_eq_true rfl⟩, rfl, hts _ xw3_21⟩ ⟨xPre.blind, xPre.call hE hS (hP.sub [4] rfl) (hD.sub [4] (by decide) rfl) hF⟩ rfl rfl hl.1 rfl (lv_room (Nat.le_of_ble_eq_true rfl)) dX1_init_35 ⟨Nat.le_of_ble_eq_true rfl, Nat.le_of_ble_eq_true rfl⟩) hP hD hS hF [4] [0, 1, 2, 3] rfl rfl rfl (by decide) (fun u_15 H locs hw_17 hP hD hS => ?_)
  have hP : va_P D xCl [(h0, .inr (3, [.ref h1, .ref q_1, .int 0])), (q_1, .inl (K 5, 6, .inr (.inr (.inr (.inr (va_up (va_up (fun _ => none) ((0 : Int32).toNatClampNeg) (some q_4)) ((1 : Int32).toNatClampNeg) (some q_9))))))), (q_4, .inr (8, [.ref (u_5 0), .ref (u_5 1), .ref (u_5 2), .ref (u_5 3), .ref (u_5 4), .ref (u_5 5), .ref (u_5 6), .ref (u_5 7), .int 0])), (q_9, .inr (8, [.ref (u_10 0), .ref (u_10 1), .ref (u_10 2), .ref (u_10 3), .ref (u_10 4), .ref (u_10 5), .ref (u_10 6), .ref (u_10 7), .int 0])), (q_14, .inr (8, [.ref (u_15 0), .ref (u_15 1), .ref (u_15 2), .ref (u_15 3), .ref (u_15 4), .ref (u_15 5), .ref (u_15 6), .ref (u_15 7), .int 0]))] H := hP
  have hD : va_D A [(h0, .inr (3, [.ref h1, .ref q_1, .int 0])), (q_1, .inl (K 5, 6, .inr (.inr (.inr (.inr (va_up (va_up (fun _ => none) ((0 : Int32).toNatClampNeg) (some q_4)) ((1 : Int32).toNatClampNeg) (some q_9))))))), (q_4, .inr (8, [.ref (u_5 0), .ref (u_5 1), .ref (u_5 2), .ref (u_5 3), .ref (u_5 4), .ref (u_5 5), .ref (u_5 6), .ref (u_5 7), .int 0])), (q_9, .inr (8, [.ref (u_10 0), .ref (u_10 1), .ref (u_10 2), .ref (u_10 3), .ref (u_10 4), .ref (u_10 5), .ref (u_10 6), .ref (u_10 7), .int 0])), (q_14, .inr (8, [.ref (u_15 0), .ref (u_15 1), .ref (u_15 2), .ref (u_15 3), .ref (u_15 4), .ref (u_15 5), .ref (u_15 6), .ref (u_15 7), .int 0]))] := hD
  refine W.widen (k := 28) (n := 195) (Nat.le_of_ble_eq_true rfl) (Nat.le_of_ble_eq_true rfl) ?_
  refine va_astq (r := (RX6, TX6, 9)) hx hb hK hP hD hS 1 5 4 8 rfl rfl rfl rfl (by unfold vp_in; decide) dX1_init_38 (fun H locs hP hD hS => ?_)
  have hP : va_P D xCl [(h0, .inr (3, [.ref h1, .ref q_1, .int 0])), (q_1, .inl (K 5, 6, .inr (.inr (.inr (.inr (va_up (va_up (va_up (fun _ => none) ((0 : Int32).toNatClampNeg) (some q_4)) ((1 : Int32).toNatClampNeg) (some q_9)) ((2 : Int32).toNatClampNeg) (some q_14))))))), (q_4, .inr (8, [.ref (u_5 0), .ref (u_5 1), .ref (u_5 2), .ref (u_5 3), .ref (u_5 4), .ref (u_5 5), .ref (u_5 6), .ref (u_5 7), .int 0])), (q_9, .inr (8, [.ref (u_10 0), .ref (u_10 1), .ref (u_10 2), .ref (u_10 3), .ref (u_10 4), .ref (u_10 5), .ref (u_10 6), .ref (u_10 7), .int 0])), (q_14, .inr (8, [.ref (u_15 0), .ref (u_15 1), .ref (u_15 2), .ref (u_15 3), .ref (u_15 4), .ref (u_15 5), .ref (u_15 6), .ref (u_15 7), .int 0]))] H := hP
  have hD : va_D A [(h0, .inr (3, [.ref h1, .ref q_1, .int 0])), (q_1, .inl (K 5, 6, .inr (.inr (.inr (.inr (va_up (va_up (va_up (fun _ => none) ((0 : Int32).toNatClampNeg) (some q_4)) ((1 : Int32).toNatClampNeg) (some q_9)) ((2 : Int32).toNatClampNeg) (some q_14))))))), (q_4, .inr (8, [.ref (u_5 0), .ref (u_5 1), .ref (u_5 2), .ref (u_5 3), .ref (u_5 4), .ref (u_5 5), .ref (u_5 6), .ref (u_5 7), .int 0])), (q_9, .inr (8, [.ref (u_10 0), .ref (u_10 1), .ref (u_10 2), .ref (u_10 3), .ref (u_10 4), .ref (u_10 5), .ref (u_10 6), .ref (u_10 7), .int 0])), (q_14, .inr (8, [.ref (u_15 0), .ref (u_15 1), .ref (u_15 2), .ref (u_15 3), .ref (u_15 4), .ref (u_15 5), .ref (u_15 6), .ref (u_15 7), .int 0]))] := hD
  refine lv_iinc (v := 3) (lv' := [(2, .int 3), (0, .ref h0), (1, .ref h1)]) hx hb dX1_init_39 hl (k := 0) rfl (by decide) (by decide) rfl (fun ls hl => ?_)
  refine lv_goto (tgt := 20) hx hb dX1_init_42 (by decide) ?_
  refine lv_iload_n hx hb dX1_init_20 rfl (lv_at hl 0 rfl) ?_
  refine lv_bipush (v := 6) hx hb dX1_init_21 (by decide) ?_
  refine lv_icmp_ge (tgt := 45) hx hb dX1_init_23 (by decide) (fun c_18 => absurd c_18 (by decide)) (fun _ => ?_)
  refine lv_aload_n hx hb dX1_init_26 rfl (lv_at hl 1 rfl) ?_
  refine va_get (D := D) (ci := 3) (v := .ref q_1) (C := RX1) (T := TX1) (N := 3) hx hb hts inlX1 hown hK hP 0 rfl rfl 1 (by decide) (hts _ xw3_17) (fun _ h9 => h9) rfl dX1_init_27 ?_
  refine lv_iload_n hx hb dX1_init_30 rfl (lv_at hl 0 rfl) ?_
  refine va_new (ci := 8) (fs := [.null, .null, .null, .null, .null, .null, .null, .null, .int 0]) (C := RX6) (T := TX6) (N := 9) hx hb hts inlX6 tyX6 tyX6_ok hown (hts _ xw3_16) (hts _ xw3_19) (hts _ xw3_20) hK hP hD hS hA rfl (by decide +kernel) (Nat.le_of_ble_eq_true rfl) (Nat.le_of_ble_eq_true rfl) dX1_init_31 (fun q_19 H hP hD hS => ?_)
  have hP : va_P D xCl [(h0, .inr (3, [.ref h1, .ref q_1, .int 0])), (q_1, .inl (K 5, 6, .inr (.inr (.inr (.inr (va_up (va_up (va_up (fun _ => none) ((0 : Int32).toNatClampNeg) (some q_4)) ((1 : Int32).toNatClampNeg) (some q_9)) ((2 : Int32).toNatClampNeg) (some q_14))))))), (q_4, .inr (8, [.ref (u_5 0), .ref (u_5 1), .ref (u_5 2), .ref (u_5 3), .ref (u_5 4), .ref (u_5 5), .ref (u_5 6), .ref (u_5 7), .int 0])), (q_9, .inr (8, [.ref (u_10 0), .ref (u_10 1), .ref (u_10 2), .ref (u_10 3), .ref (u_10 4), .ref (u_10 5), .ref (u_10 6), .ref (u_10 7), .int 0])), (q_14, .inr (8, [.ref (u_15 0), .ref (u_15 1), .ref (u_15 2), .ref (u_15 3), .ref (u_15 4), .ref (u_15 5), .ref (u_15 6), .ref (u_15 7), .int 0])), (q_19, .inr (8, [.null, .null, .null, .null, .null, .null, .null, .null, .int 0]))] H := hP
  have hD : va_D A [(h0, .inr (3, [.ref h1, .ref q_1, .int 0])), (q_1, .inl (K 5, 6, .inr (.inr (.inr (.inr (va_up (va_up (va_up (fun _ => none) ((0 : Int32).toNatClampNeg) (some q_4)) ((1 : Int32).toNatClampNeg) (some q_9)) ((2 : Int32).toNatClampNeg) (some q_14))))))), (q_4, .inr (8, [.ref (u_5 0), .ref (u_5 1), .ref (u_5 2), .ref (u_5 3), .ref (u_5 4), .ref (u_5 5), .ref (u_5 6), .ref (u_5 7), .int 0])), (q_9, .inr (8, [.ref (u_10 0), .ref (u_10 1), .ref (u_10 2), .ref (u_10 3), .ref (u_10 4), .ref (u_10 5), .ref (u_10 6), .ref (u_10 7), .int 0])), (q_14, .inr (8, [.ref (u_15 0), .ref (u_15 1), .ref (u_15 2), .ref (u_15 3), .ref (u_15 4), .ref (u_15 5), .ref (u_15 6), .ref (u_15 7), .int 0])), (q_19, .inr (8, [.null, .null, .null, .null, .null, .null, .null, .null, .int 0]))] := hD
  refine W.widen (k := 29) (n := 204) (Nat.le_of_ble_eq_true rfl) (Nat.le_of_ble_eq_true rfl) ?_
  refine lv_dup hx hb dX1_init_34 rfl ?_
  have hF := va_free (wc := [(q_19, .inr (8, [.null, .null, .null, .null, .null, .null, .null, .null, .int 0]))]) hD hS hA [5] rfl
  refine xk_v (w1 := fun (u : Nat → Nat) => [(q_19, .inr (8, [.ref (u 0), .ref (u 1), .ref (u 2), .ref (u 3), .ref (u 4), .ref (u 5), .ref (u 6), .ref (u 7), .int 0]))]) (wc := [(q_19, .inr (8, [.null, .null, .null, .null, .null, .null, .null, .null, .int 0]))]) (wr := [(h0, .inr (3, [.ref h1, .ref q_1, .int 0])), (q_1, .inl (K 5, 6, .inr (.inr (.inr (.inr (va_up (va_up (va_up (fun _ => none) ((0 : Int32).toNatClampNeg) (some q_4)) ((1 : Int32).toNatClampNeg) (some q_9)) ((2 : Int32).toNatClampNeg) (some q_14))))))), (q_4, .inr (8, [.ref (u_5 0), .ref (u_5 1), .ref (u_5 2), .ref (u_5 3), .ref (u_5 4), .ref (u_5 5), .ref (u_5 6), .ref (u_5 7), .int 0])), (q_9, .inr (8, [.ref (u_10 0), .ref (u_10 1), .ref (u_10 2), .ref (u_10 3), .ref (u_10 4), .ref (u_10 5), .ref (u_10 6), .ref (u_10 7), .int 0])), (q_14, .inr (8, [.ref (u_15 0), .ref (u_15 1), .ref (u_15 2), .ref (u_15 3), .ref (u_15 4), .ref (u_15 5), .ref (u_15 6), .ref (u_15 7), .int 0]))]) (va_runIN (As := []) (rest := [.ref q_19, .int 3, .ref q_1]) ⟨hx, hb, hml, hown, hts⟩ (c_X6_init l D K q_19 H.size) ⟨va_cnB 0 hts xg_RX1_X6_init_21 rfl rfl rfl (va_Nw.of rfl (hnt _ xn45)) (hts _ xw3_20) (by decide +kernel) ⟨Nat.le_of_ble_eq_true rfl, Nat.le_of_ble_eq_true rfl⟩, rfl, hts _ xw3_21⟩ ⟨xPre.blind, xPre.call hE hS (hP.sub [5] rfl) (hD.sub [5] (by decide) rfl) hF⟩ rfl rfl hl.1 rfl (lv_room (Nat.le_of_ble_eq_true rfl)) dX1_init_35 ⟨Nat.le_of_ble_eq_true rfl, Nat.le_of_ble_eq_true rfl⟩) hP hD hS hF [5] [0, 1, 2, 3, 4] rfl rfl rfl (by decide) (fun u_20 H locs hw_22 hP hD hS => ?_)
  have hP : va_P D xCl [(h0, .inr (3, [.ref h1, .ref q_1, .int 0])), (q_1, .inl (K 5, 6, .inr (.inr (.inr (.inr (va_up (va_up (va_up (fun _ => none) ((0 : Int32).toNatClampNeg) (some q_4)) ((1 : Int32).toNatClampNeg) (some q_9)) ((2 : Int32).toNatClampNeg) (some q_14))))))), (q_4, .inr (8, [.ref (u_5 0), .ref (u_5 1), .ref (u_5 2), .ref (u_5 3), .ref (u_5 4), .ref (u_5 5), .ref (u_5 6), .ref (u_5 7), .int 0])), (q_9, .inr (8, [.ref (u_10 0), .ref (u_10 1), .ref (u_10 2), .ref (u_10 3), .ref (u_10 4), .ref (u_10 5), .ref (u_10 6), .ref (u_10 7), .int 0])), (q_14, .inr (8, [.ref (u_15 0), .ref (u_15 1), .ref (u_15 2), .ref (u_15 3), .ref (u_15 4), .ref (u_15 5), .ref (u_15 6), .ref (u_15 7), .int 0])), (q_19, .inr (8, [.ref (u_20 0), .ref (u_20 1), .ref (u_20 2), .ref (u_20 3), .ref (u_20 4), .ref (u_20 5), .ref (u_20 6), .ref (u_20 7), .int 0]))] H := hP
  have hD : va_D A [(h0, .inr (3, [.ref h1, .ref q_1, .int 0])), (q_1, .inl (K 5, 6, .inr (.inr (.inr (.inr (va_up (va_up (va_up (fun _ => none) ((0 : Int32).toNatClampNeg) (some q_4)) ((1 : Int32).toNatClampNeg) (some q_9)) ((2 : Int32).toNatClampNeg) (some q_14))))))), (q_4, .inr (8, [.ref (u_5 0), .ref (u_5 1), .ref (u_5 2), .ref (u_5 3), .ref (u_5 4), .ref (u_5 5), .ref (u_5 6), .ref (u_5 7), .int 0])), (q_9, .inr (8, [.ref (u_10 0), .ref (u_10 1), .ref (u_10 2), .ref (u_10 3), .ref (u_10 4), .ref (u_10 5), .ref (u_10 6), .ref (u_10 7), .int 0])), (q_14, .inr (8, [.ref (u_15 0), .ref (u_15 1), .ref (u_15 2), .ref (u_15 3), .ref (u_15 4), .ref (u_15 5), .ref (u_15 6), .ref (u_15 7), .int 0])), (q_19, .inr (8, [.ref (u_20 0), .ref (u_20 1), .ref (u_20 2), .ref (u_20 3), .ref (u_20 4), .ref (u_20 5), .ref (u_20 6), .ref (u_20 7), .int 0]))] := hD
  refine W.widen (k := 37) (n := 258) (Nat.le_of_ble_eq_true rfl) (Nat.le_of_ble_eq_true rfl) ?_
  refine va_astq (r := (RX6, TX6, 9)) hx hb hK hP hD hS 1 5 5 8 rfl rfl rfl rfl (by unfold vp_in; decide) dX1_init_38 (fun H locs hP hD hS => ?_)
  have hP : va_P D xCl [(h0, .inr (3, [.ref h1, .ref q_1, .int 0])), (q_1, .inl (K 5, 6, .inr (.inr (.inr (.inr (va_up (va_up (va_up (va_up (fun _ => none) ((0 : Int32).toNatClampNeg) (some q_4)) ((1 : Int32).toNatClampNeg) (some q_9)) ((2 : Int32).toNatClampNeg) (some q_14)) ((3 : Int32).toNatClampNeg) (some q_19))))))), (q_4, .inr (8, [.ref (u_5 0), .ref (u_5 1), .ref (u_5 2), .ref (u_5 3), .ref (u_5 4), .ref (u_5 5), .ref (u_5 6), .ref (u_5 7), .int 0])), (q_9, .inr (8, [.ref (u_10 0), .ref (u_10 1), .ref (u_10 2), .ref (u_10 3), .ref (u_10 4), .ref (u_10 5), .ref (u_10 6), .ref (u_10 7), .int 0])), (q_14, .inr (8, [.ref (u_15 0), .ref (u_15 1), .ref (u_15 2), .ref (u_15 3), .ref (u_15 4), .ref (u_15 5), .ref (u_15 6), .ref (u_15 7), .int 0])), (q_19, .inr (8, [.ref (u_20 0), .ref (u_20 1), .ref (u_20 2), .ref (u_20 3), .ref (u_20 4), .ref (u_20 5), .ref (u_20 6), .ref (u_20 7), .int 0]))] H := hP
  have hD : va_D A [(h0, .inr (3, [.ref h1, .ref q_1, .int 0])), (q_1, .inl (K 5, 6, .inr (.inr (.inr (.inr (va_up (va_up (va_up (va_up (fun _ => none) ((0 : Int32).toNatClampNeg) (some q_4)) ((1 : Int32).toNatClampNeg) (some q_9)) ((2 : Int32).toNatClampNeg) (some q_14)) ((3 : Int32).toNatClampNeg) (some q_19))))))), (q_4, .inr (8, [.ref (u_5 0), .ref (u_5 1), .ref (u_5 2), .ref (u_5 3), .ref (u_5 4), .ref (u_5 5), .ref (u_5 6), .ref (u_5 7), .int 0])), (q_9, .inr (8, [.ref (u_10 0), .ref (u_10 1), .ref (u_10 2), .ref (u_10 3), .ref (u_10 4), .ref (u_10 5), .ref (u_10 6), .ref (u_10 7), .int 0])), (q_14, .inr (8, [.ref (u_15 0), .ref (u_15 1), .ref (u_15 2), .ref (u_15 3), .ref (u_15 4), .ref (u_15 5), .ref (u_15 6), .ref (u_15 7), .int 0])), (q_19, .inr (8, [.ref (u_20 0), .ref (u_20 1), .ref (u_20 2), .ref (u_20 3), .ref (u_20 4), .ref (u_20 5), .ref (u_20 6), .ref (u_20 7), .int 0]))] := hD
  refine lv_iinc (v := 4) (lv' := [(2, .int 4), (0, .ref h0), (1, .ref h1)]) hx hb dX1_init_39 hl (k := 0) rfl (by decide) (by decide) rfl (fun ls hl => ?_)
  refine lv_goto (tgt := 20) hx hb dX1_init_42 (by decide) ?_
  refine lv_iload_n hx hb dX1_init_20 rfl (lv_at hl 0 rfl) ?_
  refine lv_bipush (v := 6) hx hb dX1_init_21 (by decide) ?_
  refine lv_icmp_ge (tgt := 45) hx hb dX1_init_23 (by decide) (fun c_23 => absurd c_23 (by decide)) (fun _ => ?_)
  refine lv_aload_n hx hb dX1_init_26 rfl (lv_at hl 1 rfl) ?_
  refine va_get (D := D) (ci := 3) (v := .ref q_1) (C := RX1) (T := TX1) (N := 3) hx hb hts inlX1 hown hK hP 0 rfl rfl 1 (by decide) (hts _ xw3_17) (fun _ h9 => h9) rfl dX1_init_27 ?_
  refine lv_iload_n hx hb dX1_init_30 rfl (lv_at hl 0 rfl) ?_
  refine va_new (ci := 8) (fs := [.null, .null, .null, .null, .null, .null, .null, .null, .int 0]) (C := RX6) (T := TX6) (N := 9) hx hb hts inlX6 tyX6 tyX6_ok hown (hts _ xw3_16) (hts _ xw3_19) (hts _ xw3_20) hK hP hD hS hA rfl (by decide +kernel) (Nat.le_of_ble_eq_true rfl) (Nat.le_of_ble_eq_true rfl) dX1_init_31 (fun q_24 H hP hD hS => ?_)
  have hP : va_P D xCl [(h0, .inr (3, [.ref h1, .ref q_1, .int 0])), (q_1, .inl (K 5, 6, .inr (.inr (.inr (.inr (va_up (va_up (va_up (va_up (fun _ => none) ((0 : Int32).toNatClampNeg) (some q_4)) ((1 : Int32).toNatClampNeg) (some q_9)) ((2 : Int32).toNatClampNeg) (some q_14)) ((3 : Int32).toNatClampNeg) (some q_19))))))), (q_4, .inr (8, [.ref (u_5 0), .ref (u_5 1), .ref (u_5 2), .ref (u_5 3), .ref (u_5 4), .ref (u_5 5), .ref (u_5 6), .ref (u_5 7), .int 0])), (q_9, .inr (8, [.ref (u_10 0), .ref (u_10 1), .ref (u_10 2), .ref (u_10 3), .ref (u_10 4), .ref (u_10 5), .ref (u_10 6), .ref (u_10 7), .int 0])), (q_14, .inr (8, [.ref (u_15 0), .ref (u_15 1), .ref (u_15 2), .ref (u_15 3), .ref (u_15 4), .ref (u_15 5), .ref (u_15 6), .ref (u_15 7), .int 0])), (q_19, .inr (8, [.ref (u_20 0), .ref (u_20 1), .ref (u_20 2), .ref (u_20 3), .ref (u_20 4), .ref (u_20 5), .ref (u_20 6), .ref (u_20 7), .int 0])), (q_24, .inr (8, [.null, .null, .null, .null, .null, .null, .null, .null, .int 0]))] H := hP
  have hD : va_D A [(h0, .inr (3, [.ref h1, .ref q_1, .int 0])), (q_1, .inl (K 5, 6, .inr (.inr (.inr (.inr (va_up (va_up (va_up (va_up (fun _ => none) ((0 : Int32).toNatClampNeg) (some q_4)) ((1 : Int32).toNatClampNeg) (some q_9)) ((2 : Int32).toNatClampNeg) (some q_14)) ((3 : Int32).toNatClampNeg) (some q_19))))))), (q_4, .inr (8, [.ref (u_5 0), .ref (u_5 1), .ref (u_5 2), .ref (u_5 3), .ref (u_5 4), .ref (u_5 5), .ref (u_5 6), .ref (u_5 7), .int 0])), (q_9, .inr (8, [.ref (u_10 0), .ref (u_10 1), .ref (u_10 2), .ref (u_10 3), .ref (u_10 4), .ref (u_10 5), .ref (u_10 6), .ref (u_10 7), .int 0])), (q_14, .inr (8, [.ref (u_15 0), .ref (u_15 1), .ref (u_15 2), .ref (u_15 3), .ref (u_15 4), .ref (u_15 5), .ref (u_15 6), .ref (u_15 7), .int 0])), (q_19, .inr (8, [.ref (u_20 0), .ref (u_20 1), .ref (u_20 2), .ref (u_20 3), .ref (u_20 4), .ref (u_20 5), .ref (u_20 6), .ref (u_20 7), .int 0])), (q_24, .inr (8, [.null, .null, .null, .null, .null, .null, .null, .null, .int 0]))] := hD
  refine W.widen (k := 38) (n := 267) (Nat.le_of_ble_eq_true rfl) (Nat.le_of_ble_eq_true rfl) ?_
  refine lv_dup hx hb dX1_init_34 rfl ?_
  have hF := va_free (wc := [(q_24, .inr (8, [.null, .null, .null, .null, .null, .null, .null, .null, .int 0]))]) hD hS hA [6] rfl
  refine xk_v (w1 := fun (u : Nat → Nat) => [(q_24, .inr (8, [.ref (u 0), .ref (u 1), .ref (u 2), .ref (u 3), .ref (u 4), .ref (u 5), .ref (u 6), .ref (u 7), .int 0]))]) (wc := [(q_24, .inr (8, [.null, .null, .null, .null, .null, .null, .null, .null, .int 0]))]) (wr := [(h0, .inr (3, [.ref h1, .ref q_1, .int 0])), (q_1, .inl (K 5, 6, .inr (.inr (.inr (.inr (va_up (va_up (va_up (va_up (fun _ => none) ((0 : Int32).toNatClampNeg) (some q_4)) ((1 : Int32).toNatClampNeg) (some q_9)) ((2 : Int32).toNatClampNeg) (some q_14)) ((3 : Int32).toNatClampNeg) (some q_19))))))), (q_4, .inr (8, [.ref (u_5 0), .ref (u_5 1), .ref (u_5 2), .ref (u_5 3), .ref (u_5 4), .ref (u_5 5), .ref (u_5 6), .ref (u_5 7), .int 0])), (q_9, .inr (8, [.ref (u_10 0), .ref (u_10 1), .ref (u_10 2), .ref (u_10 3), .ref (u_10 4), .ref (u_10 5), .ref (u_10 6), .ref (u_10 7), .int 0])), (q_14, .inr (8, [.ref (u_15 0), .ref (u_15 1), .ref (u_15 2), .ref (u_15 3), .ref (u_15 4), .ref (u_15 5), .ref (u_15 6), .ref (u_15 7), .int 0])), (q_19, .inr (8, [.ref (u_20 0), .ref (u_20 1), .ref (u_20 2), .ref (u_20 3), .ref (u_20 4), .ref (u_20 5), .ref (u_20 6), .ref (u_20 7), .int 0]))]) (va_runIN (As := []) (rest := [.ref q_24, .int 4, .ref q_1]) ⟨hx, hb, hml, hown, hts⟩ (c_X6_init l D K q_24 H.size) ⟨va_cnB 0 hts xg_RX1_X6_init_21 rfl rfl rfl (va_Nw.of rfl (hnt _ xn45)) (hts _ xw3_20) (by decide +kernel) ⟨Nat.le_of_ble_eq_true rfl, Nat.le_of_ble_eq_true rfl⟩, rfl, hts _ xw3_21⟩ ⟨xPre.blind, xPre.call hE hS (hP.sub [6] rfl) (hD.sub [6] (by decide) rfl) hF⟩ rfl rfl hl.1 rfl (lv_room (Nat.le_of_ble_eq_true rfl)) dX1_init_35 ⟨Nat.le_of_ble_eq_true rfl, Nat.le_of_ble_eq_true rfl⟩) hP hD hS hF [6] [0, 1, 2, 3, 4, 5] rfl rfl rfl (by decide) (fun u_25 H locs hw_27 hP hD hS => ?_)
  have hP : va_P D xCl [(h0, .inr (3, [.ref h1, .ref q_1, .int 0])), (q_1, .inl (K 5, 6, .inr (.inr (.inr (.inr (va_up (va_up (va_up (va_up (fun _ => none) ((0 : Int32).toNatClampNeg) (some q_4)) ((1 : Int32).toNatClampNeg) (some q_9)) ((2 : Int32).toNatClampNeg) (some q_14)) ((3 : Int32).toNatClampNeg) (some q_19))))))), (q_4, .inr (8, [.ref (u_5 0), .ref (u_5 1), .ref (u_5 2), .ref (u_5 3), .ref (u_5 4), .ref (u_5 5), .ref (u_5 6), .ref (u_5 7), .int 0])), (q_9, .inr (8, [.ref (u_10 0), .ref (u_10 1), .ref (u_10 2), .ref (u_10 3), .ref (u_10 4), .ref (u_10 5), .ref (u_10 6), .ref (u_10 7), .int 0])), (q_14, .inr (8, [.ref (u_15 0), .ref (u_15 1), .ref (u_15 2), .ref (u_15 3), .ref (u_15 4), .ref (u_15 5), .ref (u_15 6), .ref (u_15 7), .int 0])), (q_19, .inr (8, [.ref (u_20 0), .ref (u_20 1), .ref (u_20 2), .ref (u_20 3), .ref (u_20 4), .ref (u_20 5), .ref (u_20 6), .ref (u_20 7), .int 0])), (q_24, .inr (8, [.ref (u_25 0), .ref (u_25 1), .ref (u_25 2), .ref (u_25 3), .ref (u_25 4), .ref (u_25 5), .ref (u_25 6), .ref (u_25 7), .int 0]))] H := hP
  have hD : va_D A [(h0, .inr (3, [.ref h1, .ref q_1, .int 0])), (q_1, .inl (K 5, 6, .inr (.inr (.inr (.inr (va_up (va_up (va_up (va_up (fun _ => none) ((0 : Int32).toNatClampNeg) (some q_4)) ((1 : Int32).toNatClampNeg) (some q_9)) ((2 : Int32).toNatClampNeg) (some q_14)) ((3 : Int32).toNatClampNeg) (some q_19))))))), (q_4, .inr (8, [.ref (u_5 0), .ref (u_5 1), .ref (u_5 2), .ref (u_5 3), .ref (u_5 4), .ref (u_5 5), .ref (u_5 6), .ref (u_5 7), .int 0])), (q_9, .inr (8, [.ref (u_10 0), .ref (u_10 1), .ref (u_10 2), .ref (u_10 3), .ref (u_10 4), .ref (u_10 5), .ref (u_10 6), .ref (u_10 7), .int 0])), (q_14, .inr (8, [.ref (u_15 0), .ref (u_15 1), .ref (u_15 2), .ref (u_15 3), .ref (u_15 4), .ref (u_15 5), .ref (u_15 6), .ref (u_15 7), .int 0])), (q_19, .inr (8, [.ref (u_20 0), .ref (u_20 1), .ref (u_20 2), .ref (u_20 3), .ref (u_20 4), .ref (u_20 5), .ref (u_20 6), .ref (u_20 7), .int 0])), (q_24, .inr (8, [.ref (u_25 0), .ref (u_25 1), .ref (u_25 2), .ref (u_25 3), .ref (u_25 4), .ref (u_25 5), .ref (u_25 6), .ref (u_25 7), .int 0]))] := hD
  refine W.widen (k := 46) (n := 321) (Nat.le_of_ble_eq_true rfl) (Nat.le_of_ble_eq_true rfl) ?_
  refine va_astq (r := (RX6, TX6, 9)) hx hb hK hP hD hS 1 5 6 8 rfl rfl rfl rfl (by unfold vp_in; decide) dX1_init_38 (fun H locs hP hD hS => ?_)
  have hP : va_P D xCl [(h0, .inr (3, [.ref h1, .ref q_1, .int 0])), (q_1, .inl (K 5, 6, .inr (.inr (.inr (.inr (va_up (va_up (va_up (va_up (va_up (fun _ => none) ((0 : Int32).toNatClampNeg) (some q_4)) ((1 : Int32).toNatClampNeg) (some q_9)) ((2 : Int32).toNatClampNeg) (some q_14)) ((3 : Int32).toNatClampNeg) (some q_19)) ((4 : Int32).toNatClampNeg) (some q_24))))))), (q_4, .inr (8, [.ref (u_5 0), .ref (u_5 1), .ref (u_5 2), .ref (u_5 3), .ref (u_5 4), .ref (u_5 5), .ref (u_5 6), .ref (u_5 7), .int 0])), (q_9, .inr (8, [.ref (u_10 0), .ref (u_10 1), .ref (u_10 2), .ref (u_10 3), .ref (u_10 4), .ref (u_10 5), .ref (u_10 6), .ref (u_10 7), .int 0])), (q_14, .inr (8, [.ref (u_15 0), .ref (u_15 1), .ref (u_15 2), .ref (u_15 3), .ref (u_15 4), .ref (u_15 5), .ref (u_15 6), .ref (u_15 7), .int 0])), (q_19, .inr (8, [.ref (u_20 0), .ref (u_20 1), .ref (u_20 2), .ref (u_20 3), .ref (u_20 4), .ref (u_20 5), .ref (u_20 6), .ref (u_20 7), .int 0])), (q_24, .inr (8, [.ref (u_25 0), .ref (u_25 1), .ref (u_25 2), .ref (u_25 3), .ref (u_25 4), .ref (u_25 5), .ref (u_25 6), .ref (u_25 7), .int 0]))] H := hP
  have hD : va_D A [(h0, .inr (3, [.ref h1, .ref q_1, .int 0])), (q_1, .inl (K 5, 6, .inr (.inr (.inr (.inr (va_up (va_up (va_up (va_up (va_up (fun _ => none) ((0 : Int32).toNatClampNeg) (some q_4)) ((1 : Int32).toNatClampNeg) (some q_9)) ((2 : Int32).toNatClampNeg) (some q_14)) ((3 : Int32).toNatClampNeg) (some q_19)) ((4 : Int32).toNatClampNeg) (some q_24))))))), (q_4, .inr (8, [.ref (u_5 0), .ref (u_5 1), .ref (u_5 2), .ref (u_5 3), .ref (u_5 4), .ref (u_5 5), .ref (u_5 6), .ref (u_5 7), .int 0])), (q_9, .inr (8, [.ref (u_10 0), .ref (u_10 1), .ref (u_10 2), .ref (u_10 3), .ref (u_10 4), .ref (u_10 5), .ref (u_10 6), .ref (u_10 7), .int 0])), (q_14, .inr (8, [.ref (u_15 0), .ref (u_15 1), .ref (u_15 2), .ref (u_15 3), .ref (u_15 4), .ref (u_15 5), .ref (u_15 6), .ref (u_15 7), .int 0])), (q_19, .inr (8, [.ref (u_20 0), .ref (u_20 1), .ref (u_20 2), .ref (u_20 3), .ref (u_20 4), .ref (u_20 5), .ref (u_20 6), .ref (u_20 7), .int 0])), (q_24, .inr (8, [.ref (u_25 0), .ref (u_25 1), .ref (u_25 2), .ref (u_25 3), .ref (u_25 4), .ref (u_25 5), .ref (u_25 6), .ref (u_25 7), .int 0]))] := hD
  refine lv_iinc (v := 5) (lv' := [(2, .int 5), (0, .ref h0), (1, .ref h1)]) hx hb dX1_init_39 hl (k := 0) rfl (by decide) (by decide) rfl (fun ls hl => ?_)
  refine lv_goto (tgt := 20) hx hb dX1_init_42 (by decide) ?_
  refine lv_iload_n hx hb dX1_init_20 rfl (lv_at hl 0 rfl) ?_
  refine lv_bipush (v := 6) hx hb dX1_init_21 (by decide) ?_
  refine lv_icmp_ge (tgt := 45) hx hb dX1_init_23 (by decide) (fun c_28 => absurd c_28 (by decide)) (fun _ => ?_)
  refine lv_aload_n hx hb dX1_init_26 rfl (lv_at hl 1 rfl) ?_
  refine va_get (D := D) (ci := 3) (v := .ref q_1) (C := RX1) (T := TX1) (N := 3) hx hb hts inlX1 hown hK hP 0 rfl rfl 1 (by decide) (hts _ xw3_17) (fun _ h9 => h9) rfl dX1_init_27 ?_
  refine lv_iload_n hx hb dX1_init_30 rfl (lv_at hl 0 rfl) ?_
  refine va_new (ci := 8) (fs := [.null, .null, .null, .null, .null, .null, .null, .null, .int 0]) (C := RX6) (T := TX6) (N := 9) hx hb hts inlX6 tyX6 tyX6_ok hown (hts _ xw3_16) (hts _ xw3_19) (hts _ xw3_20) hK hP hD hS hA rfl (by decide +kernel) (Nat.le_of_ble_eq_true rfl) (Nat.le_of_ble_eq_true rfl) dX1_init_31 (fun q_29 H hP hD hS => ?_)
  have hP : va_P D xCl [(h0, .inr (3, [.ref h1, .ref q_1, .int 0])), (q_1, .inl (K 5, 6, .inr (.inr (.inr (.inr (va_up (va_up (va_up (va_up (va_up (fun _ => none) ((0 : Int32).toNatClampNeg) (some q_4)) ((1 : Int32).toNatClampNeg) (some q_9)) ((2 : Int32).toNatClampNeg) (some q_14)) ((3 : Int32).toNatClampNeg) (some q_19)) ((4 : Int32).toNatClampNeg) (some q_24))))))), (q_4, .inr (8, [.ref (u_5 0), .ref (u_5 1), .ref (u_5 2), .ref (u_5 3), .ref (u_5 4), .ref (u_5 5), .ref (u_5 6), .ref (u_5 7), .int 0])), (q_9, .inr (8, [.ref (u_10 0), .ref (u_10 1), .ref (u_10 2), .ref (u_10 3), .ref (u_10 4), .ref (u_10 5), .ref (u_10 6), .ref (u_10 7), .int 0])), (q_14, .inr (8, [.ref (u_15 0), .ref (u_15 1), .ref (u_15 2), .ref (u_15 3), .ref (u_15 4), .ref (u_15 5), .ref (u_15 6), .ref (u_15 7), .int 0])), (q_19, .inr (8, [.ref (u_20 0), .ref (u_20 1), .ref (u_20 2), .ref (u_20 3), .ref (u_20 4), .ref (u_20 5), .ref (u_20 6), .ref (u_20 7), .int 0])), (q_24, .inr (8, [.ref (u_25 0), .ref (u_25 1), .ref (u_25 2), .ref (u_25 3), .ref (u_25 4), .ref (u_25 5), .ref (u_25 6), .ref (u_25 7), .int 0])), (q_29, .inr (8, [.null, .null, .null, .null, .null, .null, .null, .null, .int 0]))] H := hP
  have hD : va_D A [(h0, .inr (3, [.ref h1, .ref q_1, .int 0])), (q_1, .inl (K 5, 6, .inr (.inr (.inr (.inr (va_up (va_up (va_up (va_up (va_up (fun _ => none) ((0 : Int32).toNatClampNeg) (some q_4)) ((1 : Int32).toNatClampNeg) (some q_9)) ((2 : Int32).toNatClampNeg) (some q_14)) ((3 : Int32).toNatClampNeg) (some q_19)) ((4 : Int32).toNatClampNeg) (some q_24))))))), (q_4, .inr (8, [.ref (u_5 0), .ref (u_5 1), .ref (u_5 2), .ref (u_5 3), .ref (u_5 4), .ref (u_5 5), .ref (u_5 6), .ref (u_5 7), .int 0])), (q_9, .inr (8, [.ref (u_10 0), .ref (u_10 1), .ref (u_10 2), .ref (u_10 3), .ref (u_10 4), .ref (u_10 5), .ref (u_10 6), .ref (u_10 7), .int 0])), (q_14, .inr (8, [.ref (u_15 0), .ref (u_15 1), .ref (u_15 2), .ref (u_15 3), .ref (u_15 4), .ref (u_15 5), .ref (u_15 6), .ref (u_15 7), .int 0])), (q_19, .inr (8, [.ref (u_20 0), .ref (u_20 1), .ref (u_20 2), .ref (u_20 3), .ref (u_20 4), .ref (u_20 5), .ref (u_20 6), .ref (u_20 7), .int 0])), (q_24, .inr (8, [.ref (u_25 0), .ref (u_25 1), .ref (u_25 2), .ref (u_25 3), .ref (u_25 4), .ref (u_25 5), .ref (u_25 6), .ref (u_25 7), .int 0])), (q_29, .inr (8, [.null, .null, .null, .null, .null, .null, .null, .null, .int 0]))] := hD
  refine W.widen (k := 47) (n := 330) (Nat.le_of_ble_eq_true rfl) (Nat.le_of_ble_eq_true rfl) ?_
  refine lv_dup hx hb dX1_init_34 rfl ?_
  have hF := va_free (wc := [(q_29, .inr (8, [.null, .null, .null, .null, .null, .null, .null, .null, .int 0]))]) hD hS hA [7] rfl
  refine xk_v (w1 := fun (u : Nat → Nat) => [(q_29, .inr (8, [.ref (u 0), .ref (u 1), .ref (u 2), .ref (u 3), .ref (u 4), .ref (u 5), .ref (u 6), .ref (u 7), .int 0]))]) (wc := [(q_29, .inr (8, [.null, .null, .null, .null, .null, .null, .null, .null, .int 0]))]) (wr := [(h0, .inr (3, [.ref h1, .ref q_1, .int 0])), (q_1, .inl (K 5, 6, .inr (.inr (.inr (.inr (va_up (va_up (va_up (va_up (va_up (fun _ => none) ((0 : Int32).toNatClampNeg) (some q_4)) ((1 : Int32).toNatClampNeg) (some q_9)) ((2 : Int32).toNatClampNeg) (some q_14)) ((3 : Int32).toNatClampNeg) (some q_19)) ((4 : Int32).toNatClampNeg) (some q_24))))))), (q_4, .inr (8, [.ref (u_5 0), .ref (u_5 1), .ref (u_5 2), .ref (u_5 3), .ref (u_5 4), .ref (u_5 5), .ref (u_5 6), .ref (u_5 7), .int 0])), (q_9, .inr (8, [.ref (u_10 0), .ref (u_10 1), .ref (u_10 2), .ref (u_10 3), .ref (u_10 4), .ref (u_10 5), .ref (u_10 6), .ref (u_10 7), .int 0])), (q_14, .inr (8, [.ref (u_15 0), .ref (u_15 1), .ref (u_15 2), .ref (u_15 3), .ref (u_15 4), .ref (u_15 5), .ref (u_15 6), .ref (u_15 7), .int 0])), (q_19, .inr (8, [.ref (u_20 0), .ref (u_20 1), .ref (u_20 2), .ref (u_20 3), .ref (u_20 4), .ref (u_20 5), .ref (u_20 6), .ref (u_20 7), .int 0])), (q_24, .inr (8, [.ref (u_25 0), .ref (u_25 1), .ref (u_25 2), .ref (u_25 3), .ref (u_25 4), .ref (u_25 5), .ref (u_25 6), .ref (u_25 7), .int 0]))]) (va_runIN (As := []) (rest := [.ref q_29, .int 5, .ref q_1]) ⟨hx, hb, hml, hown, hts⟩ (c_X6_init l D K q_29 H.size) ⟨va_cnB 0 hts xg_RX1_X6_init_21 rfl rfl rfl (va_Nw.of rfl (hnt _ xn45)) (hts _ xw3_20) (by decide +kernel) ⟨Nat.le_of_ble_eq_true rfl, Nat.le_of_ble_eq_true rfl⟩, rfl, hts _ xw3_21⟩ ⟨xPre.blind, xPre.call hE hS (hP.sub [7] rfl) (hD.sub [7] (by decide) rfl) hF⟩ rfl rfl hl.1 rfl (lv_room (Nat.le_of_ble_eq_true rfl)) dX1_init_35 ⟨Nat.le_of_ble_eq_true rfl, Nat.le_of_ble_eq_true rfl⟩) hP hD hS hF [7] [0, 1, 2, 3, 4, 5, 6] rfl rfl rfl (by decide) (fun u_30 H locs hw_32 hP hD hS => ?_)
  have hP : va_P D xCl [(h0, .inr (3, [.ref h1, .ref q_1, .int 0])), (q_1, .inl (K 5, 6, .inr (.inr (.inr (.inr (va_up (va_up (va_up (va_up (va_up (fun _ => none) ((0 : Int32).toNatClampNeg) (some q_4)) ((1 : Int32).toNatClampNeg) (some q_9)) ((2 : Int32).toNatClampNeg) (some q_14)) ((3 : Int32).toNatClampNeg) (some q_19)) ((4 : Int32).toNatClampNeg) (some q_24))))))), (q_4, .inr (8, [.ref (u_5 0), .ref (u_5 1), .ref (u_5 2), .ref (u_5 3), .ref (u_5 4), .ref (u_5 5), .ref (u_5 6), .ref (u_5 7), .int 0])), (q_9, .inr (8, [.ref (u_10 0), .ref (u_10 1), .ref (u_10 2), .ref (u_10 3), .ref (u_10 4), .ref (u_10 5), .ref (u_10 6), .ref (u_10 7), .int 0])), (q_14, .inr (8, [.ref (u_15 0), .ref (u_15 1), .ref (u_15 2), .ref (u_15 3), .ref (u_15 4), .ref (u_15 5), .ref (u_15 6), .ref (u_15 7), .int 0])), (q_19, .inr (8, [.ref (u_20 0), .ref (u_20 1), .ref (u_20 2), .ref (u_20 3), .ref (u_20 4), .ref (u_20 5), .ref (u_20 6), .ref (u_20 7), .int 0])), (q_24, .inr (8, [.ref (u_25 0), .ref (u_25 1), .ref (u_25 2), .ref (u_25 3), .ref (u_25 4), .ref (u_25 5), .ref (u_25 6), .ref (u_25 7), .int 0])), (q_29, .inr (8, [.ref (u_30 0), .ref (u_30 1), .ref (u_30 2), .ref (u_30 3), .ref (u_30 4), .ref (u_30 5), .ref (u_30 6), .ref (u_30 7), .int 0]))] H := hP
  have hD : va_D A [(h0, .inr (3, [.ref h1, .ref q_1, .int 0])), (q_1, .inl (K 5, 6, .inr (.inr (.inr (.inr (va_up (va_up (va_up (va_up (va_up (fun _ => none) ((0 : Int32).toNatClampNeg) (some q_4)) ((1 : Int32).toNatClampNeg) (some q_9)) ((2 : Int32).toNatClampNeg) (some q_14)) ((3 : Int32).toNatClampNeg) (some q_19)) ((4 : Int32).toNatClampNeg) (some q_24))))))), (q_4, .inr (8, [.ref (u_5 0), .ref (u_5 1), .ref (u_5 2), .ref (u_5 3), .ref (u_5 4), .ref (u_5 5), .ref (u_5 6), .ref (u_5 7), .int 0])), (q_9, .inr (8, [.ref (u_10 0), .ref (u_10 1), .ref (u_10 2), .ref (u_10 3), .ref (u_10 4), .ref (u_10 5), .ref (u_10 6), .ref (u_10 7), .int 0])), (q_14, .inr (8, [.ref (u_15 0), .ref (u_15 1), .ref (u_15 2), .ref (u_15 3), .ref (u_15 4), .ref (u_15 5), .ref (u_15 6), .ref (u_15 7), .int 0])), (q_19, .inr (8, [.ref (u_20 0), .ref (u_20 1), .ref (u_20 2), .ref (u_20 3), .ref (u_20 4), .ref (u_20 5), .ref (u_20 6), .ref (u_20 7), .int 0])), (q_24, .inr (8, [.ref (u_25 0), .ref (u_25 1), .ref (u_25 2), .ref (u_25 3), .ref (u_25 4), .ref (u_25 5), .ref (u_25 6), .ref (u_25 7), .int 0])), (q_29, .inr (8, [.ref (u_30 0), .ref (u_30 1), .ref (u_30 2), .ref (u_30 3), .ref (u_30 4), .ref (u_30 5), .ref (u_30 6), .ref (u_30 7), .int 0]))] := hD
  refine W.widen (k := 55) (n := 384) (Nat.le_of_ble_eq_true rfl) (Nat.le_of_ble_eq_true rfl) ?_
  refine va_astq (r := (RX6, TX6, 9)) hx hb hK hP hD hS 1 5 7 8 rfl rfl rfl rfl (by unfold vp_in; decide) dX1_init_38 (fun H locs hP hD hS => ?_)
  have hP : va_P D xCl [(h0, .inr (3, [.ref h1, .ref q_1, .int 0])), (q_1, .inl (K 5, 6, .inr (.inr (.inr (.inr (va_up (va_up (va_up (va_up (va_up (va_up (fun _ => none) ((0 : Int32).toNatClampNeg) (some q_4)) ((1 : Int32).toNatClampNeg) (some q_9)) ((2 : Int32).toNatClampNeg) (some q_14)) ((3 : Int32).toNatClampNeg) (some q_19)) ((4 : Int32).toNatClampNeg) (some q_24)) ((5 : Int32).toNatClampNeg) (some q_29))))))), (q_4, .inr (8, [.ref (u_5 0), .ref (u_5 1), .ref (u_5 2), .ref (u_5 3), .ref (u_5 4), .ref (u_5 5), .ref (u_5 6), .ref (u_5 7), .int 0])), (q_9, .inr (8, [.ref (u_10 0), .ref (u_10 1), .ref (u_10 2), .ref (u_10 3), .ref (u_10 4), .ref (u_10 5), .ref (u_10 6), .ref (u_10 7), .int 0])), (q_14, .inr (8, [.ref (u_15 0), .ref (u_15 1), .ref (u_15 2), .ref (u_15 3), .ref (u_15 4), .ref (u_15 5), .ref (u_15 6), .ref (u_15 7), .int 0])), (q_19, .inr (8, [.ref (u_20 0), .ref (u_20 1), .ref (u_20 2), .ref (u_20 3), .ref (u_20 4), .ref (u_20 5), .ref (u_20 6), .ref (u_20 7), .int 0])), (q_24, .inr (8, [.ref (u_25 0), .ref (u_25 1), .ref (u_25 2), .ref (u_25 3), .ref (u_25 4), .ref (u_25 5), .ref (u_25 6), .ref (u_25 7), .int 0])), (q_29, .inr (8, [.ref (u_30 0), .ref (u_30 1), .ref (u_30 2), .ref (u_30 3), .ref (u_30 4), .ref (u_30 5), .ref (u_30 6), .ref (u_30 7), .int 0]))] H := hP
  have hD : va_D A [(h0, .inr (3, [.ref h1, .ref q_1, .int 0])), (q_1, .inl (K 5, 6, .inr (.inr (.inr (.inr (va_up (va_up (va_up (va_up (va_up (va_up (fun _ => none) ((0 : Int32).toNatClampNeg) (some q_4)) ((1 : Int32).toNatClampNeg) (some q_9)) ((2 : Int32).toNatClampNeg) (some q_14)) ((3 : Int32).toNatClampNeg) (some q_19)) ((4 : Int32).toNatClampNeg) (some q_24)) ((5 : Int32).toNatClampNeg) (some q_29))))))), (q_4, .inr (8, [.ref (u_5 0), .ref (u_5 1), .ref (u_5 2), .ref (u_5 3), .ref (u_5 4), .ref (u_5 5), .ref (u_5 6), .ref (u_5 7), .int 0])), (q_9, .inr (8, [.ref (u_10 0), .ref (u_10 1), .ref (u_10 2), .ref (u_10 3), .ref (u_10 4), .ref (u_10 5), .ref (u_10 6), .ref (u_10 7), .int 0])), (q_14, .inr (8, [.ref (u_15 0), .ref (u_15 1), .ref (u_15 2), .ref (u_15 3), .ref (u_15 4), .ref (u_15 5), .ref (u_15 6), .ref (u_15 7), .int 0])), (q_19, .inr (8, [.ref (u_20 0), .ref (u_20 1), .ref (u_20 2), .ref (u_20 3), .ref (u_20 4), .ref (u_20 5), .ref (u_20 6), .ref (u_20 7), .int 0])), (q_24, .inr (8, [.ref (u_25 0), .ref (u_25 1), .ref (u_25 2), .ref (u_25 3), .ref (u_25 4), .ref (u_25 5), .ref (u_25 6), .ref (u_25 7), .int 0])), (q_29, .inr (8, [.ref (u_30 0), .ref (u_30 1), .ref (u_30 2), .ref (u_30 3), .ref (u_30 4), .ref (u_30 5), .ref (u_30 6), .ref (u_30 7), .int 0]))] := hD
  refine lv_iinc (v := 6) (lv' := [(2, .int 6), (0, .ref h0), (1, .ref h1)]) hx hb dX1_init_39 hl (k := 0) rfl (by decide) (by decide) rfl (fun ls hl => ?_)
  refine lv_goto (tgt := 20) hx hb dX1_init_42 (by decide) ?_
  refine lv_iload_n hx hb dX1_init_20 rfl (lv_at hl 0 rfl) ?_
  refine lv_bipush (v := 6) hx hb dX1_init_21 (by decide) ?_
  refine lv_icmp_ge (tgt := 45) hx hb dX1_init_23 (by decide) (fun _ => ?_) (fun c_33 => absurd (by decide) c_33)
  have hP9 : va_P D xCl [(h0, .inr (3, [.ref h1, .ref q_1, .int 0]))] H := hP.sub [0] rfl
  have hD9 : va_D A [(h0, .inr (3, [.ref h1, .ref q_1, .int 0]))] := hD.sub [0] (by decide) rfl
  refine W.widen (k := 55) (n := 384) (Nat.le_of_ble_eq_true rfl) (Nat.le_of_ble_eq_true rfl) ?_
  exact W.vret hx hb hr (fun t ht hW => ⟨⟨(fun k => [q_1].getD k 0), rfl, trivial, by rw [ht]; exact hP9, hD9⟩, hS.F ht⟩) hS.2.2 dX1_init_45
set_option maxHeartbeats 4000000 in
set_option maxRecDepth 100000 in
theorem c_X4_init (l : Launch) (D : va_G) (K : Nat → ClassId) (h0 h1 h2 h3 : Nat) (sz : Nat) : Met l yX4_init [.code yX4_init cX4_init 4 none] ({ frames := 1, cells := 3, slots := 30, locals := 12 }) (xPre D K [.ref h0, .ref h1, .ref h2, .ref h3] [(h0, .inr (4, [.null, .null, .null, .null, .null, .null]))] sz) (va_Qv (fun (u : Nat → Nat) => True) (fun u t => xW D (va_A [(h0, .inr (4, [.null, .null, .null, .null, .null, .null]))] sz) ((fun (u : Nat → Nat) => [(h0, .inr (4, [.ref h1, .ref h2, .ref h3, .ref (u 0), .ref (u 1), .ref (u 2)])), ((u 2), .inl (K 0, 6, .inl (fun _ => 0)))]) u) t) (va_A [(h0, .inr (4, [.null, .null, .null, .null, .null, .null]))] sz)) 3 30 (va_A [(h0, .inr (4, [.null, .null, .null, .null, .null, .null]))] sz) := by
  refine Met.ofW (cc := cX4_init) (maxL := 4) (ret := none) (by decide) rfl ?_
  intro p e s m args below meth c s₁ B hml hv
  obtain ⟨rfl, hsz, hP, hD0, hE⟩ := hv
  have hx := B.exec
  have hb := B.bytes
  have hr := B.returns
  have hlocks := B.notSynchronized
  have hts := hE.1.ts ([.ref h0, .ref h1, .ref h2, .ref h3] : List Value).toArray
  have hnt := hE.1.nt ([.ref h0, .ref h1, .ref h2, .ref h3] : List Value).toArray
  have hK := hE.2.1
  have hown : s.vm.findClass RX4 = some m.cls := findClass_of_methodNamed B.named
  have hin : meth.name = "<init>" := (name_of_methodNamed B.named B.method).1
  subst hsz
  have hD := hD0.self (sz := s.heap.size)
  generalize hAe : va_A [(h0, .inr (4, [.null, .null, .null, .null, .null, .null]))] s.heap.size = A at hD hE ⊢
  have hA : ∀ q : Nat, s.heap.size ≤ q → A q := fun q h => by rw [← hAe]; exact Or.inr h
  have hl := lv_entry ([.ref h0, .ref h1, .ref h2, .ref h3]) (n := 4) (Nat.le_of_ble_eq_true rfl)
  rw [lg_entry_eq]
  generalize (lg_sl ([.ref h0, .ref h1, .ref h2, .ref h3]) ++ List.replicate (4 - (lg_sl ([.ref h0, .ref h1, .ref h2, .ref h3])).length) Slot.unset).toArray = ls at hl ⊢
  have hl : lv_has ls 4 [(0, .ref h0), (1, .ref h1), (2, .ref h2), (3, .ref h3)] := hl
  generalize hH : s.heap = H at hP ⊢
  have hS : va_S A s.heap H [] := by rw [← hH]; exact va_S.rf
  refine lv_aload_n hx hb dX4_init_0 rfl (lv_at hl 0 rfl) ?_
  refine W.objInit hx hb hown (hts _ xw4_12) (hts _ xw1_12) (hts _ xw1_13) rfl (by rw [hml]; exact hl.1) rfl dX4_init_1 (Nat.le_of_ble_eq_true rfl) (Nat.le_of_ble_eq_true rfl) ?_
  refine W.eq (g2 := F0 m 4 ls []) rfl ?_
  refine lv_aload_n hx hb dX4_init_4 rfl (lv_at hl 0 rfl) ?_
  refine lv_bipush (v := 12) hx hb dX4_init_5 (by decide) ?_
  refine va_newa (atype := .int) (ty := .int) (N' := 12) (a0 := (12, .inl (fun _ => 0))) hx hb (hts _ xw2_21) rfl hK hP hD hS hA (fun _ => rfl) (by decide) (by decide) (by decide) (Nat.le_of_ble_eq_true rfl) (Nat.le_of_ble_eq_true rfl) dX4_init_7 (fun q_1 cA_2 H hK9 hP hD hS => ?_)
  obtain rfl := xKu hK9 0 rfl
  have hP : va_P D xCl [(h0, .inr (4, [.null, .null, .null, .null, .null, .null])), (q_1, .inl (K 0, 12, .inl (fun _ => 0)))] H := hP
  have hD : va_D A [(h0, .inr (4, [.null, .null, .null, .null, .null, .null])), (q_1, .inl (K 0, 12, .inl (fun _ => 0)))] := hD
  refine W.widen (k := 1) (n := 12) (Nat.le_of_ble_eq_true rfl) (Nat.le_of_ble_eq_true rfl) ?_
  refine va_putF (D := D) (ci := 4) (v := .ref q_1) (ty := (.array .int)) (C := RX4) (T := TX4) (N := 6) hx hb hts inlX4 tyX4 tyX4_ok nmX4 hown hK hP hD hS 0 rfl rfl 3 (by decide) (hts _ xw4_13) (fun _ h9 => h9) rfl hin rfl (by decide +kernel) rfl rfl (Nat.le_of_ble_eq_true rfl) dX4_init_9 (fun H locs hP hD hS => ?_)
  have hP : va_P D xCl [(h0, .inr (4, [.null, .null, .null, .ref q_1, .null, .null])), (q_1, .inl (K 0, 12, .inl (fun _ => 0)))] H := hP
  have hD : va_D A [(h0, .inr (4, [.null, .null, .null, .ref q_1, .null, .null])), (q_1, .inl (K 0, 12, .inl (fun _ => 0)))] := hD
  refine lv_aload_n hx hb dX4_init_12 rfl (lv_at hl 0 rfl) ?_
  refine lv_bipush (v := 12) hx hb dX4_init_13 (by decide) ?_
  refine va_newa (atype := .int) (ty := .int) (N' := 12) (a0 := (12, .inl (fun _ => 0))) hx hb (hts _ xw2_21) rfl hK hP hD hS hA (fun _ => rfl) (by decide) (by decide) (by decide) (Nat.le_of_ble_eq_true rfl) (Nat.le_of_ble_eq_true rfl) dX4_init_15 (fun q_3 cA_4 H hK9 hP hD hS => ?_)
  obtain rfl := xKu hK9 0 rfl
  have hP : va_P D xCl [(h0, .inr (4, [.null, .null, .null, .ref q_1, .null, .null])), (q_1, .inl (K 0, 12, .inl (fun _ => 0))), (q_3, .inl (K 0, 12, .inl (fun _ => 0)))] H := hP
  have hD : va_D A [(h0, .inr (4, [.null, .null, .null, .ref q_1, .null, .null])), (q_1, .inl (K 0, 12, .inl (fun _ => 0))), (q_3, .inl (K 0, 12, .inl (fun _ => 0)))] := hD
  refine W.widen (k := 2) (n := 24) (Nat.le_of_ble_eq_true rfl) (Nat.le_of_ble_eq_true rfl) ?_
  refine va_putF (D := D) (ci := 4) (v := .ref q_3) (ty := (.array .int)) (C := RX4) (T := TX4) (N := 6) hx hb hts inlX4 tyX4 tyX4_ok nmX4 hown hK hP hD hS 0 rfl rfl 4 (by decide) (hts _ xw4_14) (fun _ h9 => h9) rfl hin rfl (by decide +kernel) rfl rfl (Nat.le_of_ble_eq_true rfl) dX4_init_17 (fun H locs hP hD hS => ?_)
  have hP : va_P D xCl [(h0, .inr (4, [.null, .null, .null, .ref q_1, .ref q_3, .null])), (q_1, .inl (K 0, 12, .inl (fun _ => 0))), (q_3, .inl (K 0, 12, .inl (fun _ => 0)))] H := hP
  have hD : va_D A [(h0, .inr (4, [.null, .null, .null, .ref q_1, .ref q_3, .null])), (q_1, .inl (K 0, 12, .inl (fun _ => 0))), (q_3, .inl (K 0, 12, .inl (fun _ => 0)))] := hD
  refine lv_aload_n hx hb dX4_init_20 rfl (lv_at hl 0 rfl) ?_
  refine lv_bipush (v := 6) hx hb dX4_init_21 (by decide) ?_
  refine va_newa (atype := .int) (ty := .int) (N' := 6) (a0 := (6, .inl (fun _ => 0))) hx hb (hts _ xw2_21) rfl hK hP hD hS hA (fun _ => rfl) (by decide) (by decide) (by decide) (Nat.le_of_ble_eq_true rfl) (Nat.le_of_ble_eq_true rfl) dX4_init_23 (fun q_5 cA_6 H hK9 hP hD hS => ?_)
  obtain rfl := xKu hK9 0 rfl
  have hP : va_P D xCl [(h0, .inr (4, [.null, .null, .null, .ref q_1, .ref q_3, .null])), (q_1, .inl (K 0, 12, .inl (fun _ => 0))), (q_3, .inl (K 0, 12, .inl (fun _ => 0))), (q_5, .inl (K 0, 6, .inl (fun _ => 0)))] H := hP
  have hD : va_D A [(h0, .inr (4, [.null, .null, .null, .ref q_1, .ref q_3, .null])), (q_1, .inl (K 0, 12, .inl (fun _ => 0))), (q_3, .inl (K 0, 12, .inl (fun _ => 0))), (q_5, .inl (K 0, 6, .inl (fun _ => 0)))] := hD
  refine W.widen (k := 3) (n := 30) (Nat.le_of_ble_eq_true rfl) (Nat.le_of_ble_eq_true rfl) ?_
  refine va_putF (D := D) (ci := 4) (v := .ref q_5) (ty := (.array .int)) (C := RX4) (T := TX4) (N := 6) hx hb hts inlX4 tyX4 tyX4_ok nmX4 hown hK hP hD hS 0 rfl rfl 5 (by decide) (hts _ xw4_15) (fun _ h9 => h9) rfl hin rfl (by decide +kernel) rfl rfl (Nat.le_of_ble_eq_true rfl) dX4_init_25 (fun H locs hP hD hS => ?_)
  have hP : va_P D xCl [(h0, .inr (4, [.null, .null, .null, .ref q_1, .ref q_3, .ref q_5])), (q_1, .inl (K 0, 12, .inl (fun _ => 0))), (q_3, .inl (K 0, 12, .inl (fun _ => 0))), (q_5, .inl (K 0, 6, .inl (fun _ => 0)))] H := hP
  have hD : va_D A [(h0, .inr (4, [.null, .null, .null, .ref q_1, .ref q_3, .ref q_5])), (q_1, .inl (K 0, 12, .inl (fun _ => 0))), (q_3, .inl (K 0, 12, .inl (fun _ => 0))), (q_5, .inl (K 0, 6, .inl (fun _ => 0)))] := hD
  refine lv_aload_n hx hb dX4_init_28 rfl (lv_at hl 0 rfl) ?_
  refine lv_aload_n hx hb dX4_init_29 rfl (lv_at hl 1 rfl) ?_
  refine va_putF (D := D) (ci := 4) (v := .ref h1) (ty := (.object "Debatetab$Roster")) (C := RX4) (T := TX4) (N := 6) hx hb hts inlX4 tyX4 tyX4_ok nmX4 hown hK hP hD hS 0 rfl rfl 0 (by decide) (hts _ xw4_16) (fun _ h9 => h9) rfl hin rfl (by decide +kernel) rfl rfl (Nat.le_of_ble_eq_true rfl) dX4_init_30 (fun H locs hP hD hS => ?_)
  have hP : va_P D xCl [(h0, .inr (4, [.ref h1, .null, .null, .ref q_1, .ref q_3, .ref q_5])), (q_1, .inl (K 0, 12, .inl (fun _ => 0))), (q_3, .inl (K 0, 12, .inl (fun _ => 0))), (q_5, .inl (K 0, 6, .inl (fun _ => 0)))] H := hP
  have hD : va_D A [(h0, .inr (4, [.ref h1, .null, .null, .ref q_1, .ref q_3, .ref q_5])), (q_1, .inl (K 0, 12, .inl (fun _ => 0))), (q_3, .inl (K 0, 12, .inl (fun _ => 0))), (q_5, .inl (K 0, 6, .inl (fun _ => 0)))] := hD
  refine lv_aload_n hx hb dX4_init_33 rfl (lv_at hl 0 rfl) ?_
  refine lv_aload_n hx hb dX4_init_34 rfl (lv_at hl 2 rfl) ?_
  refine va_putF (D := D) (ci := 4) (v := .ref h2) (ty := (.object "Debatetab$Tally")) (C := RX4) (T := TX4) (N := 6) hx hb hts inlX4 tyX4 tyX4_ok nmX4 hown hK hP hD hS 0 rfl rfl 1 (by decide) (hts _ xw4_17) (fun _ h9 => h9) rfl hin rfl (by decide +kernel) rfl rfl (Nat.le_of_ble_eq_true rfl) dX4_init_35 (fun H locs hP hD hS => ?_)
  have hP : va_P D xCl [(h0, .inr (4, [.ref h1, .ref h2, .null, .ref q_1, .ref q_3, .ref q_5])), (q_1, .inl (K 0, 12, .inl (fun _ => 0))), (q_3, .inl (K 0, 12, .inl (fun _ => 0))), (q_5, .inl (K 0, 6, .inl (fun _ => 0)))] H := hP
  have hD : va_D A [(h0, .inr (4, [.ref h1, .ref h2, .null, .ref q_1, .ref q_3, .ref q_5])), (q_1, .inl (K 0, 12, .inl (fun _ => 0))), (q_3, .inl (K 0, 12, .inl (fun _ => 0))), (q_5, .inl (K 0, 6, .inl (fun _ => 0)))] := hD
  refine lv_aload_n hx hb dX4_init_38 rfl (lv_at hl 0 rfl) ?_
  refine lv_aload_n hx hb dX4_init_39 rfl (lv_at hl 3 rfl) ?_
  refine va_putF (D := D) (ci := 4) (v := .ref h3) (ty := (.object "Debatetab$History")) (C := RX4) (T := TX4) (N := 6) hx hb hts inlX4 tyX4 tyX4_ok nmX4 hown hK hP hD hS 0 rfl rfl 2 (by decide) (hts _ xw4_18) (fun _ h9 => h9) rfl hin rfl (by decide +kernel) rfl rfl (Nat.le_of_ble_eq_true rfl) dX4_init_40 (fun H locs hP hD hS => ?_)
  have hP : va_P D xCl [(h0, .inr (4, [.ref h1, .ref h2, .ref h3, .ref q_1, .ref q_3, .ref q_5])), (q_1, .inl (K 0, 12, .inl (fun _ => 0))), (q_3, .inl (K 0, 12, .inl (fun _ => 0))), (q_5, .inl (K 0, 6, .inl (fun _ => 0)))] H := hP
  have hD : va_D A [(h0, .inr (4, [.ref h1, .ref h2, .ref h3, .ref q_1, .ref q_3, .ref q_5])), (q_1, .inl (K 0, 12, .inl (fun _ => 0))), (q_3, .inl (K 0, 12, .inl (fun _ => 0))), (q_5, .inl (K 0, 6, .inl (fun _ => 0)))] := hD
  have hP9 : va_P D xCl [(h0, .inr (4, [.ref h1, .ref h2, .ref h3, .ref q_1, .ref q_3, .ref q_5])), (q_5, .inl (K 0, 6, .inl (fun _ => 0)))] H := hP.sub [0, 3] rfl
  have hD9 : va_D A [(h0, .inr (4, [.ref h1, .ref h2, .ref h3, .ref q_1, .ref q_3, .ref q_5])), (q_5, .inl (K 0, 6, .inl (fun _ => 0)))] := hD.sub [0, 3] (by decide) rfl
  refine W.widen (k := 3) (n := 30) (Nat.le_of_ble_eq_true rfl) (Nat.le_of_ble_eq_true rfl) ?_
  exact W.vret hx hb hr (fun t ht hW => ⟨⟨(fun k => [q_1, q_3, q_5].getD k 0), rfl, trivial, by rw [ht]; exact hP9, hD9⟩, hS.F ht⟩) hS.2.2 dX4_init_43
