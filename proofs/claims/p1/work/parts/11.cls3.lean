set_option maxHeartbeats 4000000 in
set_option maxRecDepth 100000 in
theorem c_X0_form (l : Launch) (D : va_G) (K : Nat → ClassId) (h5 h1 h2 h4 e1 e2 h3 d1 d2 d3 a1 a2 a3 a4 a5 a6 : Nat) (sz : Nat) : Met l yX0_form [.code yX0_form cX0_form 3 none] ({ frames := 1, cells := 0, slots := 0, locals := 23 }) (xPre D K [.ref h5] [(h5, .inr (5, [.ref h1, .ref h2, .ref h4, .ref e1, .ref e2, .int 0])), (h4, .inr (4, [.ref h1, .ref h2, .ref h3, .ref d1, .ref d2, .ref d3])), (h1, .inr (1, [.ref a1, .ref a2, .ref a3, .ref a4, .ref a5, .ref a6, .int 0, .int 0]))] sz) (va_Qv (fun (u : Unit) => True) (fun u t => xW D (va_A [(h5, .inr (5, [.ref h1, .ref h2, .ref h4, .ref e1, .ref e2, .int 0])), (h4, .inr (4, [.ref h1, .ref h2, .ref h3, .ref d1, .ref d2, .ref d3])), (h1, .inr (1, [.ref a1, .ref a2, .ref a3, .ref a4, .ref a5, .ref a6, .int 0, .int 0]))] sz) ((fun (_ : Unit) => [(h5, .inr (5, [.ref h1, .ref h2, .ref h4, .ref e1, .ref e2, .int 0]))]) u) t) (va_A [(h5, .inr (5, [.ref h1, .ref h2, .ref h4, .ref e1, .ref e2, .int 0])), (h4, .inr (4, [.ref h1, .ref h2, .ref h3, .ref d1, .ref d2, .ref d3])), (h1, .inr (1, [.ref a1, .ref a2, .ref a3, .ref a4, .ref a5, .ref a6, .int 0, .int 0]))] sz)) 0 0 (va_A [(h5, .inr (5, [.ref h1, .ref h2, .ref h4, .ref e1, .ref e2, .int 0])), (h4, .inr (4, [.ref h1, .ref h2, .ref h3, .ref d1, .ref d2, .ref d3])), (h1, .inr (1, [.ref a1, .ref a2, .ref a3, .ref a4, .ref a5, .ref a6, .int 0, .int 0]))] sz) := by
  refine Met.ofW (cc := cX0_form) (maxL := 3) (ret := none) (by decide) rfl ?_
  intro p e s m args below meth c s₁ B hml hv
  obtain ⟨rfl, hsz, hP, hD0, hE⟩ := hv
  have hx := B.exec
  have hb := B.bytes
  have hr := B.returns
  have hlocks := B.notSynchronized
  have hts := hE.1.ts ([.ref h5] : List Value).toArray
  have hnt := hE.1.nt ([.ref h5] : List Value).toArray
  have hK := hE.2.1
  have hown : s.vm.findClass RX0 = some m.cls := findClass_of_methodNamed B.named
  subst hsz
  have hD := hD0.self (sz := s.heap.size)
  generalize hAe : va_A [(h5, .inr (5, [.ref h1, .ref h2, .ref h4, .ref e1, .ref e2, .int 0])), (h4, .inr (4, [.ref h1, .ref h2, .ref h3, .ref d1, .ref d2, .ref d3])), (h1, .inr (1, [.ref a1, .ref a2, .ref a3, .ref a4, .ref a5, .ref a6, .int 0, .int 0]))] s.heap.size = A at hD hE ⊢
  have hA : ∀ q : Nat, s.heap.size ≤ q → A q := fun q h => by rw [← hAe]; exact Or.inr h
  have hl := lv_entry ([.ref h5]) (n := 3) (Nat.le_of_ble_eq_true rfl)
  rw [lg_entry_eq]
  generalize (lg_sl ([.ref h5]) ++ List.replicate (3 - (lg_sl ([.ref h5])).length) Slot.unset).toArray = ls at hl ⊢
  have hl : lv_has ls 3 [(0, .ref h5)] := hl
  generalize hH : s.heap = H at hP ⊢
  have hS : va_S A s.heap H [] := by rw [← hH]; exact va_S.rf
  refine lv_aload_n hx hb dX0_form_0 rfl (lv_at hl 0 rfl) ?_
  refine va_get (D := D) (ci := 5) (v := .ref h4) (C := RX0) (T := TX0) (N := 6) hx hb hts inlX0 hown hK hP 0 rfl rfl 2 (by decide) (hts _ xw5_3) (fun _ h9 => h9) rfl dX0_form_1 ?_
  have hF := va_free (wc := [(h4, .inr (4, [.ref h1, .ref h2, .ref h3, .ref d1, .ref d2, .ref d3])), (h1, .inr (1, [.ref a1, .ref a2, .ref a3, .ref a4, .ref a5, .ref a6, .int 0, .int 0]))]) hD hS hA [1, 2] rfl
  refine xk_v (w1 := fun (_ : Unit) => [(h4, .inr (4, [.ref h1, .ref h2, .ref h3, .ref d1, .ref d2, .ref d3])), (h1, .inr (1, [.ref a1, .ref a2, .ref a3, .ref a4, .ref a5, .ref a6, .int 0, .int 0]))]) (wc := [(h4, .inr (4, [.ref h1, .ref h2, .ref h3, .ref d1, .ref d2, .ref d3])), (h1, .inr (1, [.ref a1, .ref a2, .ref a3, .ref a4, .ref a5, .ref a6, .int 0, .int 0]))]) (wr := [(h5, .inr (5, [.ref h1, .ref h2, .ref h4, .ref e1, .ref e2, .int 0]))]) (va_runV (As := []) (rest := []) ⟨hx, hb, hml, hown, hts⟩ (c_X4_sort l D K h4 h1 h2 h3 d1 d2 d3 a1 a2 a3 a4 a5 a6 H.size) (cwV 0 hts xg_RX0_X4_sort_30 rfl rfl rfl (by decide +kernel) ⟨Nat.le_of_ble_eq_true rfl, Nat.le_of_ble_eq_true rfl⟩) ⟨xPre.blind, va_recv hK hP (ci := 4) (q0 := 1) rfl rfl, xPre.call hE hS (hP.sub [1, 2] rfl) (hD.sub [1, 2] (by decide) rfl) hF⟩ rfl rfl hl.1 rfl (lv_room (Nat.le_of_ble_eq_true rfl)) dX0_form_4 ⟨Nat.le_of_ble_eq_true rfl, Nat.le_of_ble_eq_true rfl⟩) hP hD hS hF [1, 2] [0] rfl rfl rfl (by decide) (fun u_1 H locs hw_3 hP hD hS => ?_)
  have hP : va_P D xCl [(h5, .inr (5, [.ref h1, .ref h2, .ref h4, .ref e1, .ref e2, .int 0])), (h4, .inr (4, [.ref h1, .ref h2, .ref h3, .ref d1, .ref d2, .ref d3])), (h1, .inr (1, [.ref a1, .ref a2, .ref a3, .ref a4, .ref a5, .ref a6, .int 0, .int 0]))] H := hP
  have hD : va_D A [(h5, .inr (5, [.ref h1, .ref h2, .ref h4, .ref e1, .ref e2, .int 0])), (h4, .inr (4, [.ref h1, .ref h2, .ref h3, .ref d1, .ref d2, .ref d3])), (h1, .inr (1, [.ref a1, .ref a2, .ref a3, .ref a4, .ref a5, .ref a6, .int 0, .int 0]))] := hD
  refine lv_aload_n hx hb dX0_form_7 rfl (lv_at hl 0 rfl) ?_
  have hF := va_free (wc := [(h5, .inr (5, [.ref h1, .ref h2, .ref h4, .ref e1, .ref e2, .int 0])), (h1, .inr (1, [.ref a1, .ref a2, .ref a3, .ref a4, .ref a5, .ref a6, .int 0, .int 0]))]) hD hS hA [0, 2] rfl
  refine xk_i (w1 := fun (_ : Unit) => [(h5, .inr (5, [.ref h1, .ref h2, .ref h4, .ref e1, .ref e2, .int 0]))]) (wc := [(h5, .inr (5, [.ref h1, .ref h2, .ref h4, .ref e1, .ref e2, .int 0])), (h1, .inr (1, [.ref a1, .ref a2, .ref a3, .ref a4, .ref a5, .ref a6, .int 0, .int 0]))]) (wr := [(h4, .inr (4, [.ref h1, .ref h2, .ref h3, .ref d1, .ref d2, .ref d3]))]) (va_runV (As := []) (rest := []) ⟨hx, hb, hml, hown, hts⟩ (c_X0_gatherMembers l D K h5 h1 h2 h4 e1 e2 a1 a2 a3 a4 a5 a6 H.size) (cwV 0 hts xg_RX0_X0_gatherMembers_35 rfl rfl rfl (by decide +kernel) ⟨Nat.le_of_ble_eq_true rfl, Nat.le_of_ble_eq_true rfl⟩) ⟨xPre.blind, va_recv hK hP (ci := 5) (q0 := 0) rfl rfl, xPre.call hE hS (hP.sub [0, 2] rfl) (hD.sub [0, 2] (by decide) rfl) hF⟩ rfl rfl hl.1 rfl (lv_room (Nat.le_of_ble_eq_true rfl)) dX0_form_8 ⟨Nat.le_of_ble_eq_true rfl, Nat.le_of_ble_eq_true rfl⟩) hP hD hS hF [0, 2] [1] rfl rfl rfl (by decide) (fun r_5 u_4 H locs hw_6 hP hD hS => ?_)
  obtain rfl := hw_6
  have hP : va_P D xCl [(h4, .inr (4, [.ref h1, .ref h2, .ref h3, .ref d1, .ref d2, .ref d3])), (h5, .inr (5, [.ref h1, .ref h2, .ref h4, .ref e1, .ref e2, .int 0]))] H := hP
  have hD : va_D A [(h4, .inr (4, [.ref h1, .ref h2, .ref h3, .ref d1, .ref d2, .ref d3])), (h5, .inr (5, [.ref h1, .ref h2, .ref h4, .ref e1, .ref e2, .int 0]))] := hD
  refine lv_istore_n (lv' := [(1, .int 0), (0, .ref h5)]) hx hb dX0_form_11 rfl hl (by decide) rfl (fun ls hl => ?_)
  refine lv_aload_n hx hb dX0_form_12 rfl (lv_at hl 1 rfl) ?_
  refine lv_iconst (v := 0) hx hb dX0_form_13 (by decide) ?_
  refine va_put (D := D) (ci := 5) (v := .int 0) (ty := .int) (C := RX0) (T := TX0) (N := 6) hx hb hts inlX0 tyX0 tyX0_ok nmX0 hown hK hP hD hS 1 rfl rfl 5 (by decide) (hts _ xw14_2) (fun _ h9 => h9) rfl (by decide +kernel) rfl rfl (Nat.le_of_ble_eq_true rfl) dX0_form_14 (fun H locs hP hD hS => ?_)
  have hP : va_P D xCl [(h4, .inr (4, [.ref h1, .ref h2, .ref h3, .ref d1, .ref d2, .ref d3])), (h5, .inr (5, [.ref h1, .ref h2, .ref h4, .ref e1, .ref e2, .int 0]))] H := hP
  have hD : va_D A [(h4, .inr (4, [.ref h1, .ref h2, .ref h3, .ref d1, .ref d2, .ref d3])), (h5, .inr (5, [.ref h1, .ref h2, .ref h4, .ref e1, .ref e2, .int 0]))] := hD
  refine lv_iconst (v := 1) hx hb dX0_form_17 (by decide) ?_
  refine lv_istore_n (lv' := [(2, .int 1), (1, .int 0), (0, .ref h5)]) hx hb dX0_form_18 rfl hl (by decide) rfl (fun ls hl => ?_)
  refine lv_iload_n hx hb dX0_form_19 rfl (lv_at hl 0 rfl) ?_
  refine lv_iload_n hx hb dX0_form_20 rfl (lv_at hl 1 rfl) ?_
  refine lv_icmp_ge (tgt := 58) hx hb dX0_form_21 (by decide) (fun _ => ?_) (fun c_7 => absurd (by decide) c_7)
  refine lv_iload_n hx hb dX0_form_58 rfl (lv_at hl 1 rfl) ?_
  refine lv_if_le (tgt := 82) hx hb dX0_form_59 (by decide) (fun _ => ?_) (fun c_8 => absurd (by decide) c_8)
  have hP9 : va_P D xCl [(h5, .inr (5, [.ref h1, .ref h2, .ref h4, .ref e1, .ref e2, .int 0]))] H := hP.sub [1] rfl
  have hD9 : va_D A [(h5, .inr (5, [.ref h1, .ref h2, .ref h4, .ref e1, .ref e2, .int 0]))] := hD.sub [1] (by decide) rfl
  refine W.widen (k := 0) (n := 0) (Nat.le_of_ble_eq_true rfl) (Nat.le_of_ble_eq_true rfl) ?_
  exact W.vret hx hb hr (fun t ht hW => ⟨⟨(), rfl, trivial, by rw [ht]; exact hP9, hD9⟩, hS.F ht⟩) hS.2.2 dX0_form_82
set_option maxHeartbeats 4000000 in
set_option maxRecDepth 100000 in
theorem c_X8_brackets (l : Launch) (D : va_G) (K : Nat → ClassId) (h0 h1 h2 h3 h4 h5 h6 h7 e1 e2 d1 d2 d3 a1 a2 a3 a4 a5 a6 : Nat) (sz : Nat) : Met l yX8_brackets [.code yX8_brackets cX8_brackets 1 (some .int)] ({ frames := 2, cells := 0, slots := 0, locals := 45 }) (xPre D K [.ref h0] [(h0, .inr (0, [.ref h1, .ref h2, .ref h3, .ref h4, .ref h5, .ref h6, .ref h7])), (h5, .inr (5, [.ref h1, .ref h2, .ref h4, .ref e1, .ref e2, .int 0])), (h4, .inr (4, [.ref h1, .ref h2, .ref h3, .ref d1, .ref d2, .ref d3])), (h1, .inr (1, [.ref a1, .ref a2, .ref a3, .ref a4, .ref a5, .ref a6, .int 0, .int 0]))] sz) (va_Qi (fun (r : Int32) (u : Unit) => r = 0) (fun u t => xW D (va_A [(h0, .inr (0, [.ref h1, .ref h2, .ref h3, .ref h4, .ref h5, .ref h6, .ref h7])), (h5, .inr (5, [.ref h1, .ref h2, .ref h4, .ref e1, .ref e2, .int 0])), (h4, .inr (4, [.ref h1, .ref h2, .ref h3, .ref d1, .ref d2, .ref d3])), (h1, .inr (1, [.ref a1, .ref a2, .ref a3, .ref a4, .ref a5, .ref a6, .int 0, .int 0]))] sz) ((fun (_ : Unit) => []) u) t) (va_A [(h0, .inr (0, [.ref h1, .ref h2, .ref h3, .ref h4, .ref h5, .ref h6, .ref h7])), (h5, .inr (5, [.ref h1, .ref h2, .ref h4, .ref e1, .ref e2, .int 0])), (h4, .inr (4, [.ref h1, .ref h2, .ref h3, .ref d1, .ref d2, .ref d3])), (h1, .inr (1, [.ref a1, .ref a2, .ref a3, .ref a4, .ref a5, .ref a6, .int 0, .int 0]))] sz)) 0 0 (va_A [(h0, .inr (0, [.ref h1, .ref h2, .ref h3, .ref h4, .ref h5, .ref h6, .ref h7])), (h5, .inr (5, [.ref h1, .ref h2, .ref h4, .ref e1, .ref e2, .int 0])), (h4, .inr (4, [.ref h1, .ref h2, .ref h3, .ref d1, .ref d2, .ref d3])), (h1, .inr (1, [.ref a1, .ref a2, .ref a3, .ref a4, .ref a5, .ref a6, .int 0, .int 0]))] sz) := by
  refine Met.ofW (cc := cX8_brackets) (maxL := 1) (ret := (some .int)) (by decide) rfl ?_
  intro p e s m args below meth c s₁ B hml hv
  obtain ⟨rfl, hsz, hP, hD0, hE⟩ := hv
  have hx := B.exec
  have hb := B.bytes
  have hr := B.returns
  have hlocks := B.notSynchronized
  have hts := hE.1.ts ([.ref h0] : List Value).toArray
  have hnt := hE.1.nt ([.ref h0] : List Value).toArray
  have hK := hE.2.1
  have hown : s.vm.findClass RX8 = some m.cls := findClass_of_methodNamed B.named
  subst hsz
  have hD := hD0.self (sz := s.heap.size)
  generalize hAe : va_A [(h0, .inr (0, [.ref h1, .ref h2, .ref h3, .ref h4, .ref h5, .ref h6, .ref h7])), (h5, .inr (5, [.ref h1, .ref h2, .ref h4, .ref e1, .ref e2, .int 0])), (h4, .inr (4, [.ref h1, .ref h2, .ref h3, .ref d1, .ref d2, .ref d3])), (h1, .inr (1, [.ref a1, .ref a2, .ref a3, .ref a4, .ref a5, .ref a6, .int 0, .int 0]))] s.heap.size = A at hD hE ⊢
  have hA : ∀ q : Nat, s.heap.size ≤ q → A q := fun q h => by rw [← hAe]; exact Or.inr h
  have hl := lv_entry ([.ref h0]) (n := 1) (Nat.le_of_ble_eq_true rfl)
  rw [lg_entry_eq]
  generalize (lg_sl ([.ref h0]) ++ List.replicate (1 - (lg_sl ([.ref h0])).length) Slot.unset).toArray = ls at hl ⊢
  have hl : lv_has ls 1 [(0, .ref h0)] := hl
  generalize hH : s.heap = H at hP ⊢
  have hS : va_S A s.heap H [] := by rw [← hH]; exact va_S.rf
  refine lv_aload_n hx hb dX8_brackets_0 rfl (lv_at hl 0 rfl) ?_
  refine va_get (D := D) (ci := 0) (v := .ref h5) (C := RX8) (T := TX8) (N := 7) hx hb hts inlX8 hown hK hP 0 rfl rfl 4 (by decide) (hts _ xw2_9) (fun _ h9 => h9) rfl dX8_brackets_1 ?_
  have hF := va_free (wc := [(h5, .inr (5, [.ref h1, .ref h2, .ref h4, .ref e1, .ref e2, .int 0])), (h4, .inr (4, [.ref h1, .ref h2, .ref h3, .ref d1, .ref d2, .ref d3])), (h1, .inr (1, [.ref a1, .ref a2, .ref a3, .ref a4, .ref a5, .ref a6, .int 0, .int 0]))]) hD hS hA [1, 2, 3] rfl
  refine xk_v (w1 := fun (_ : Unit) => [(h5, .inr (5, [.ref h1, .ref h2, .ref h4, .ref e1, .ref e2, .int 0]))]) (wc := [(h5, .inr (5, [.ref h1, .ref h2, .ref h4, .ref e1, .ref e2, .int 0])), (h4, .inr (4, [.ref h1, .ref h2, .ref h3, .ref d1, .ref d2, .ref d3])), (h1, .inr (1, [.ref a1, .ref a2, .ref a3, .ref a4, .ref a5, .ref a6, .int 0, .int 0]))]) (wr := [(h0, .inr (0, [.ref h1, .ref h2, .ref h3, .ref h4, .ref h5, .ref h6, .ref h7]))]) (va_runV (As := []) (rest := []) ⟨hx, hb, hml, hown, hts⟩ (c_X0_form l D K h5 h1 h2 h4 e1 e2 h3 d1 d2 d3 a1 a2 a3 a4 a5 a6 H.size) (cwV 0 hts xg_RX8_X0_form_155 rfl rfl rfl (by decide +kernel) ⟨Nat.le_of_ble_eq_true rfl, Nat.le_of_ble_eq_true rfl⟩) ⟨xPre.blind, va_recv hK hP (ci := 5) (q0 := 1) rfl rfl, xPre.call hE hS (hP.sub [1, 2, 3] rfl) (hD.sub [1, 2, 3] (by decide) rfl) hF⟩ rfl rfl hl.1 rfl (lv_room (Nat.le_of_ble_eq_true rfl)) dX8_brackets_4 ⟨Nat.le_of_ble_eq_true rfl, Nat.le_of_ble_eq_true rfl⟩) hP hD hS hF [1, 2, 3] [0] rfl rfl rfl (by decide) (fun u_1 H locs hw_3 hP hD hS => ?_)
  have hP : va_P D xCl [(h0, .inr (0, [.ref h1, .ref h2, .ref h3, .ref h4, .ref h5, .ref h6, .ref h7])), (h5, .inr (5, [.ref h1, .ref h2, .ref h4, .ref e1, .ref e2, .int 0]))] H := hP
  have hD : va_D A [(h0, .inr (0, [.ref h1, .ref h2, .ref h3, .ref h4, .ref h5, .ref h6, .ref h7])), (h5, .inr (5, [.ref h1, .ref h2, .ref h4, .ref e1, .ref e2, .int 0]))] := hD
  refine lv_aload_n hx hb dX8_brackets_7 rfl (lv_at hl 0 rfl) ?_
  refine va_get (D := D) (ci := 0) (v := .ref h5) (C := RX8) (T := TX8) (N := 7) hx hb hts inlX8 hown hK hP 0 rfl rfl 4 (by decide) (hts _ xw2_9) (fun _ h9 => h9) rfl dX8_brackets_8 ?_
  refine va_getN (D := D) (ci := 5) (v := .int 0) (C := RX0) (T := TX0) (N := 6) hx hb hts inlX0 hown hK hP 1 rfl rfl 5 (by decide) (hnt _ xn39) (fun _ h9 => h9) rfl dX8_brackets_11 ?_
  have hP9 : va_P D xCl [] H := hP.sub [] rfl
  have hD9 : va_D A [] := hD.sub [] (by decide) rfl
  refine W.widen (k := 0) (n := 0) (Nat.le_of_ble_eq_true rfl) (Nat.le_of_ble_eq_true rfl) ?_
  exact W.iret (v := 0) hx hb hr (fun t ht hW => ⟨⟨0, (), rfl, rfl, by rw [ht]; exact hP9, hD9⟩, hS.F ht⟩) hS.2.2 dX8_brackets_14
set_option maxHeartbeats 4000000 in
set_option maxRecDepth 100000 in
theorem c_X8_formAndNeedBracket (l : Launch) (hst : l.stackTraces = false) (D : va_G) (K : Nat → ClassId) (h0 h1 h2 h3 h4 h5 h6 h7 e1 e2 d1 d2 d3 a1 a2 a3 a4 a5 a6 : Nat) (sz : Nat) (p0 : Int32) : vx_Met l yX8_formAndNeedBracket [.code yX8_formAndNeedBracket cX8_formAndNeedBracket 2 none] ({ frames := 6, cells := 1, slots := 6, locals := 82 }) (xPre D K [.ref h0, .int p0] [(h0, .inr (0, [.ref h1, .ref h2, .ref h3, .ref h4, .ref h5, .ref h6, .ref h7])), (h5, .inr (5, [.ref h1, .ref h2, .ref h4, .ref e1, .ref e2, .int 0])), (h4, .inr (4, [.ref h1, .ref h2, .ref h3, .ref d1, .ref d2, .ref d3])), (h1, .inr (1, [.ref a1, .ref a2, .ref a3, .ref a4, .ref a5, .ref a6, .int 0, .int 0]))] sz) (va_Qv (fun (u : Unit) => False) (fun u t => xW D (va_A [(h0, .inr (0, [.ref h1, .ref h2, .ref h3, .ref h4, .ref h5, .ref h6, .ref h7])), (h5, .inr (5, [.ref h1, .ref h2, .ref h4, .ref e1, .ref e2, .int 0])), (h4, .inr (4, [.ref h1, .ref h2, .ref h3, .ref d1, .ref d2, .ref d3])), (h1, .inr (1, [.ref a1, .ref a2, .ref a3, .ref a4, .ref a5, .ref a6, .int 0, .int 0]))] sz) ((fun (_ : Unit) => []) u) t) (va_A [(h0, .inr (0, [.ref h1, .ref h2, .ref h3, .ref h4, .ref h5, .ref h6, .ref h7])), (h5, .inr (5, [.ref h1, .ref h2, .ref h4, .ref e1, .ref e2, .int 0])), (h4, .inr (4, [.ref h1, .ref h2, .ref h3, .ref d1, .ref d2, .ref d3])), (h1, .inr (1, [.ref a1, .ref a2, .ref a3, .ref a4, .ref a5, .ref a6, .int 0, .int 0]))] sz)) (vx_X (S := Unit) (fun _ => True) (fun E _ _ => (fun E => E = "java/lang/IndexOutOfBoundsException") E) (va_A [(h0, .inr (0, [.ref h1, .ref h2, .ref h3, .ref h4, .ref h5, .ref h6, .ref h7])), (h5, .inr (5, [.ref h1, .ref h2, .ref h4, .ref e1, .ref e2, .int 0])), (h4, .inr (4, [.ref h1, .ref h2, .ref h3, .ref d1, .ref d2, .ref d3])), (h1, .inr (1, [.ref a1, .ref a2, .ref a3, .ref a4, .ref a5, .ref a6, .int 0, .int 0]))] sz)) 1 6 (va_A [(h0, .inr (0, [.ref h1, .ref h2, .ref h3, .ref h4, .ref h5, .ref h6, .ref h7])), (h5, .inr (5, [.ref h1, .ref h2, .ref h4, .ref e1, .ref e2, .int 0])), (h4, .inr (4, [.ref h1, .ref h2, .ref h3, .ref d1, .ref d2, .ref d3])), (h1, .inr (1, [.ref a1, .ref a2, .ref a3, .ref a4, .ref a5, .ref a6, .int 0, .int 0]))] sz) := by
  refine vx_ofW (cc := cX8_formAndNeedBracket) (maxL := 2) (ret := none) (by decide) rfl ?_
  intro p e s m args below meth c s₁ B hml hte hv
  obtain ⟨rfl, hsz, hP, hD0, hE⟩ := hv
  have hx := B.exec
  have hb := B.bytes
  have hr := B.returns
  have hlocks := B.notSynchronized
  have hts := hE.1.ts ([.ref h0, .int p0] : List Value).toArray
  have hnt := hE.1.nt ([.ref h0, .int p0] : List Value).toArray
  have hK := hE.2.1
  have hown : s.vm.findClass RX8 = some m.cls := findClass_of_methodNamed B.named
  subst hsz
  have hD := hD0.self (sz := s.heap.size)
  generalize hAe : va_A [(h0, .inr (0, [.ref h1, .ref h2, .ref h3, .ref h4, .ref h5, .ref h6, .ref h7])), (h5, .inr (5, [.ref h1, .ref h2, .ref h4, .ref e1, .ref e2, .int 0])), (h4, .inr (4, [.ref h1, .ref h2, .ref h3, .ref d1, .ref d2, .ref d3])), (h1, .inr (1, [.ref a1, .ref a2, .ref a3, .ref a4, .ref a5, .ref a6, .int 0, .int 0]))] s.heap.size = A at hD hE ⊢
  have hA : ∀ q : Nat, s.heap.size ≤ q → A q := fun q h => by rw [← hAe]; exact Or.inr h
  have hl := lv_entry ([.ref h0, .int p0]) (n := 2) (Nat.le_of_ble_eq_true rfl)
  rw [lg_entry_eq]
  generalize (lg_sl ([.ref h0, .int p0]) ++ List.replicate (2 - (lg_sl ([.ref h0, .int p0])).length) Slot.unset).toArray = ls at hl ⊢
  have hl : lv_has ls 2 [(0, .ref h0), (1, .int p0)] := hl
  generalize hH : s.heap = H at hP ⊢
  have hS : va_S A s.heap H [] := by rw [← hH]; exact va_S.rf
  refine lv_aload_n hx hb dX8_formAndNeedBracket_0 rfl (lv_at hl 0 rfl) ?_
  refine va_get (D := D) (ci := 0) (v := .ref h5) (C := RX8) (T := TX8) (N := 7) hx hb hts inlX8 hown hK hP 0 rfl rfl 4 (by decide) (hts _ xw2_9) (fun _ h9 => h9) rfl dX8_formAndNeedBracket_1 ?_
  have hF := va_free (wc := [(h5, .inr (5, [.ref h1, .ref h2, .ref h4, .ref e1, .ref e2, .int 0])), (h4, .inr (4, [.ref h1, .ref h2, .ref h3, .ref d1, .ref d2, .ref d3])), (h1, .inr (1, [.ref a1, .ref a2, .ref a3, .ref a4, .ref a5, .ref a6, .int 0, .int 0]))]) hD hS hA [1, 2, 3] rfl
  refine xk_v (w1 := fun (_ : Unit) => [(h5, .inr (5, [.ref h1, .ref h2, .ref h4, .ref e1, .ref e2, .int 0]))]) (wc := [(h5, .inr (5, [.ref h1, .ref h2, .ref h4, .ref e1, .ref e2, .int 0])), (h4, .inr (4, [.ref h1, .ref h2, .ref h3, .ref d1, .ref d2, .ref d3])), (h1, .inr (1, [.ref a1, .ref a2, .ref a3, .ref a4, .ref a5, .ref a6, .int 0, .int 0]))]) (wr := [(h0, .inr (0, [.ref h1, .ref h2, .ref h3, .ref h4, .ref h5, .ref h6, .ref h7]))]) (va_runV (As := []) (rest := []) ⟨hx, hb, hml, hown, hts⟩ (c_X0_form l D K h5 h1 h2 h4 e1 e2 h3 d1 d2 d3 a1 a2 a3 a4 a5 a6 H.size) (cwV 0 hts xg_RX8_X0_form_155 rfl rfl rfl (by decide +kernel) ⟨Nat.le_of_ble_eq_true rfl, Nat.le_of_ble_eq_true rfl⟩) ⟨xPre.blind, va_recv hK hP (ci := 5) (q0 := 1) rfl rfl, xPre.call hE hS (hP.sub [1, 2, 3] rfl) (hD.sub [1, 2, 3] (by decide) rfl) hF⟩ rfl rfl hl.1 rfl (lv_room (Nat.le_of_ble_eq_true rfl)) dX8_formAndNeedBracket_4 ⟨Nat.le_of_ble_eq_true rfl, Nat.le_of_ble_eq_true rfl⟩) hP hD hS hF [1, 2, 3] [0] rfl rfl rfl (by decide) (fun u_1 H locs hw_3 hP hD hS => ?_)
  have hP : va_P D xCl [(h0, .inr (0, [.ref h1, .ref h2, .ref h3, .ref h4, .ref h5, .ref h6, .ref h7])), (h5, .inr (5, [.ref h1, .ref h2, .ref h4, .ref e1, .ref e2, .int 0]))] H := hP
  have hD : va_D A [(h0, .inr (0, [.ref h1, .ref h2, .ref h3, .ref h4, .ref h5, .ref h6, .ref h7])), (h5, .inr (5, [.ref h1, .ref h2, .ref h4, .ref e1, .ref e2, .int 0]))] := hD
  refine lv_iload_n hx hb dX8_formAndNeedBracket_7 rfl (lv_at hl 1 rfl) ?_
  refine lv_if_lt (tgt := 22) hx hb dX8_formAndNeedBracket_8 (by decide) (fun c_4 => ?_) (fun c_4 => ?_)
  · obtain ⟨sa_5, hs_6⟩ := hE.1.2.2.2.2.1 (383, "there is no such bracket") (List.mem_of_getElem? (i := 31) rfl)
    exact vx_throwSW (cls := "java/lang/IndexOutOfBoundsException") (names := ["java/lang/RuntimeException", "java/lang/Exception"]) (ic := 255) hx hb hst hown (by decide +kernel) (by decide +kernel) (hts _ xw31_10) (hts _ xw31_11) hs_6 (xat_IOB hE.1 _) xot_IOB hE.2.2.1 hE.2.2.2 hS (hl.1.trans hml.symm) dX8_formAndNeedBracket_22 dX8_formAndNeedBracket_25 dX8_formAndNeedBracket_26 dX8_formAndNeedBracket_29 dX8_formAndNeedBracket_32 (fun x hx9 => (hte x hx9).elim) (by decide) (Nat.le_of_ble_eq_true rfl) (Nat.le_of_ble_eq_true rfl) (Nat.le_of_ble_eq_true rfl) hlocks (fun t hW h1 h2 => ⟨(), trivial, rfl, Nat.le_trans hS.1 h1, fun q hq hn => (h2 q (Nat.lt_of_lt_of_le hq hS.1)).trans (hS.2.1 q hq hn)⟩) hS.2.2 (Nat.le_of_ble_eq_true rfl) (Nat.le_of_ble_eq_true rfl)
  · refine lv_iload_n hx hb dX8_formAndNeedBracket_11 rfl (lv_at hl 1 rfl) ?_
    refine lv_aload_n hx hb dX8_formAndNeedBracket_12 rfl (lv_at hl 0 rfl) ?_
    refine va_get (D := D) (ci := 0) (v := .ref h5) (C := RX8) (T := TX8) (N := 7) hx hb hts inlX8 hown hK hP 0 rfl rfl 4 (by decide) (hts _ xw2_9) (fun _ h9 => h9) rfl dX8_formAndNeedBracket_13 ?_
    refine va_getN (D := D) (ci := 5) (v := .int 0) (C := RX0) (T := TX0) (N := 6) hx hb hts inlX0 hown hK hP 1 rfl rfl 5 (by decide) (hnt _ xn39) (fun _ h9 => h9) rfl dX8_formAndNeedBracket_16 ?_
    refine lv_icmp_lt (tgt := 33) hx hb dX8_formAndNeedBracket_19 (by decide) (fun c_7 => absurd c_7 c_4) (fun _ => ?_)
    obtain ⟨sa_8, hs_9⟩ := hE.1.2.2.2.2.1 (383, "there is no such bracket") (List.mem_of_getElem? (i := 31) rfl)
    exact vx_throwSW (cls := "java/lang/IndexOutOfBoundsException") (names := ["java/lang/RuntimeException", "java/lang/Exception"]) (ic := 255) hx hb hst hown (by decide +kernel) (by decide +kernel) (hts _ xw31_10) (hts _ xw31_11) hs_9 (xat_IOB hE.1 _) xot_IOB hE.2.2.1 hE.2.2.2 hS (hl.1.trans hml.symm) dX8_formAndNeedBracket_22 dX8_formAndNeedBracket_25 dX8_formAndNeedBracket_26 dX8_formAndNeedBracket_29 dX8_formAndNeedBracket_32 (fun x hx9 => (hte x hx9).elim) (by decide) (Nat.le_of_ble_eq_true rfl) (Nat.le_of_ble_eq_true rfl) (Nat.le_of_ble_eq_true rfl) hlocks (fun t hW h1 h2 => ⟨(), trivial, rfl, Nat.le_trans hS.1 h1, fun q hq hn => (h2 q (Nat.lt_of_lt_of_le hq hS.1)).trans (hS.2.1 q hq hn)⟩) hS.2.2 (Nat.le_of_ble_eq_true rfl) (Nat.le_of_ble_eq_true rfl)
set_option maxHeartbeats 4000000 in
set_option maxRecDepth 100000 in
theorem c_X8_bracketSize (l : Launch) (hst : l.stackTraces = false) (D : va_G) (K : Nat → ClassId) (h0 h1 h2 h3 h4 h5 h6 h7 e1 e2 d1 d2 d3 a1 a2 a3 a4 a5 a6 : Nat) (sz : Nat) (p0 : Int32) : vx_Met l yX8_bracketSize [.code yX8_bracketSize cX8_bracketSize 2 (some .int)] ({ frames := 7, cells := 1, slots := 6, locals := 103 }) (xPre D K [.ref h0, .int p0] [(h0, .inr (0, [.ref h1, .ref h2, .ref h3, .ref h4, .ref h5, .ref h6, .ref h7])), (h5, .inr (5, [.ref h1, .ref h2, .ref h4, .ref e1, .ref e2, .int 0])), (h4, .inr (4, [.ref h1, .ref h2, .ref h3, .ref d1, .ref d2, .ref d3])), (h1, .inr (1, [.ref a1, .ref a2, .ref a3, .ref a4, .ref a5, .ref a6, .int 0, .int 0]))] sz) (va_Qi (fun (r : Int32) (u : Unit) => False) (fun u t => xW D (va_A [(h0, .inr (0, [.ref h1, .ref h2, .ref h3, .ref h4, .ref h5, .ref h6, .ref h7])), (h5, .inr (5, [.ref h1, .ref h2, .ref h4, .ref e1, .ref e2, .int 0])), (h4, .inr (4, [.ref h1, .ref h2, .ref h3, .ref d1, .ref d2, .ref d3])), (h1, .inr (1, [.ref a1, .ref a2, .ref a3, .ref a4, .ref a5, .ref a6, .int 0, .int 0]))] sz) ((fun (_ : Unit) => []) u) t) (va_A [(h0, .inr (0, [.ref h1, .ref h2, .ref h3, .ref h4, .ref h5, .ref h6, .ref h7])), (h5, .inr (5, [.ref h1, .ref h2, .ref h4, .ref e1, .ref e2, .int 0])), (h4, .inr (4, [.ref h1, .ref h2, .ref h3, .ref d1, .ref d2, .ref d3])), (h1, .inr (1, [.ref a1, .ref a2, .ref a3, .ref a4, .ref a5, .ref a6, .int 0, .int 0]))] sz)) (vx_X (S := Unit) (fun _ => True) (fun E _ _ => (fun E => E = "java/lang/IndexOutOfBoundsException") E) (va_A [(h0, .inr (0, [.ref h1, .ref h2, .ref h3, .ref h4, .ref h5, .ref h6, .ref h7])), (h5, .inr (5, [.ref h1, .ref h2, .ref h4, .ref e1, .ref e2, .int 0])), (h4, .inr (4, [.ref h1, .ref h2, .ref h3, .ref d1, .ref d2, .ref d3])), (h1, .inr (1, [.ref a1, .ref a2, .ref a3, .ref a4, .ref a5, .ref a6, .int 0, .int 0]))] sz)) 1 6 (va_A [(h0, .inr (0, [.ref h1, .ref h2, .ref h3, .ref h4, .ref h5, .ref h6, .ref h7])), (h5, .inr (5, [.ref h1, .ref h2, .ref h4, .ref e1, .ref e2, .int 0])), (h4, .inr (4, [.ref h1, .ref h2, .ref h3, .ref d1, .ref d2, .ref d3])), (h1, .inr (1, [.ref a1, .ref a2, .ref a3, .ref a4, .ref a5, .ref a6, .int 0, .int 0]))] sz) := by
  refine vx_ofW (cc := cX8_bracketSize) (maxL := 2) (ret := (some .int)) (by decide) rfl ?_
  intro p e s m args below meth c s₁ B hml hte hv
  obtain ⟨rfl, hsz, hP, hD0, hE⟩ := hv
  have hx := B.exec
  have hb := B.bytes
  have hr := B.returns
  have hlocks := B.notSynchronized
  have hts := hE.1.ts ([.ref h0, .int p0] : List Value).toArray
  have hnt := hE.1.nt ([.ref h0, .int p0] : List Value).toArray
  have hK := hE.2.1
  have hown : s.vm.findClass RX8 = some m.cls := findClass_of_methodNamed B.named
  subst hsz
  have hD := hD0.self (sz := s.heap.size)
  generalize hAe : va_A [(h0, .inr (0, [.ref h1, .ref h2, .ref h3, .ref h4, .ref h5, .ref h6, .ref h7])), (h5, .inr (5, [.ref h1, .ref h2, .ref h4, .ref e1, .ref e2, .int 0])), (h4, .inr (4, [.ref h1, .ref h2, .ref h3, .ref d1, .ref d2, .ref d3])), (h1, .inr (1, [.ref a1, .ref a2, .ref a3, .ref a4, .ref a5, .ref a6, .int 0, .int 0]))] s.heap.size = A at hD hE ⊢
  have hA : ∀ q : Nat, s.heap.size ≤ q → A q := fun q h => by rw [← hAe]; exact Or.inr h
  have hl := lv_entry ([.ref h0, .int p0]) (n := 2) (Nat.le_of_ble_eq_true rfl)
  rw [lg_entry_eq]
  generalize (lg_sl ([.ref h0, .int p0]) ++ List.replicate (2 - (lg_sl ([.ref h0, .int p0])).length) Slot.unset).toArray = ls at hl ⊢
  have hl : lv_has ls 2 [(0, .ref h0), (1, .int p0)] := hl
  generalize hH : s.heap = H at hP ⊢
  have hS : va_S A s.heap H [] := by rw [← hH]; exact va_S.rf
  refine lv_aload_n hx hb dX8_bracketSize_0 rfl (lv_at hl 0 rfl) ?_
  refine lv_iload_n hx hb dX8_bracketSize_1 rfl (lv_at hl 1 rfl) ?_
  have hF := va_free (wc := [(h0, .inr (0, [.ref h1, .ref h2, .ref h3, .ref h4, .ref h5, .ref h6, .ref h7])), (h5, .inr (5, [.ref h1, .ref h2, .ref h4, .ref e1, .ref e2, .int 0])), (h4, .inr (4, [.ref h1, .ref h2, .ref h3, .ref d1, .ref d2, .ref d3])), (h1, .inr (1, [.ref a1, .ref a2, .ref a3, .ref a4, .ref a5, .ref a6, .int 0, .int 0]))]) hD hS hA [0, 1, 2, 3] rfl
  refine xkx_v (px := fun E => E = "java/lang/IndexOutOfBoundsException") (w1 := fun (_ : Unit) => []) (wc := [(h0, .inr (0, [.ref h1, .ref h2, .ref h3, .ref h4, .ref h5, .ref h6, .ref h7])), (h5, .inr (5, [.ref h1, .ref h2, .ref h4, .ref e1, .ref e2, .int 0])), (h4, .inr (4, [.ref h1, .ref h2, .ref h3, .ref d1, .ref d2, .ref d3])), (h1, .inr (1, [.ref a1, .ref a2, .ref a3, .ref a4, .ref a5, .ref a6, .int 0, .int 0]))]) (wr := []) (vx_runV (As := [.int p0]) (rest := []) ⟨hx, hb, hml, hown, hts⟩ (c_X8_formAndNeedBracket l hst D K h0 h1 h2 h3 h4 h5 h6 h7 e1 e2 d1 d2 d3 a1 a2 a3 a4 a5 a6 H.size p0) (cwV 1 hts xg_RX8_X8_formAndNeedBracket_272 rfl rfl rfl (by decide +kernel) ⟨Nat.le_of_ble_eq_true rfl, Nat.le_of_ble_eq_true rfl⟩) ⟨xPre.blind, va_recv hK hP (ci := 0) (q0 := 0) rfl rfl, xPre.call hE hS (hP.sub [0, 1, 2, 3] rfl) (hD.sub [0, 1, 2, 3] (by decide) rfl) hF⟩ rfl rfl hl.1 rfl (lv_room (Nat.le_of_ble_eq_true rfl)) dX8_bracketSize_2 ⟨Nat.le_of_ble_eq_true rfl, Nat.le_of_ble_eq_true rfl⟩) hP hD hS hF [0, 1, 2, 3] [] rfl rfl rfl (by decide) (fun E9 ce9 q9 H locs hpx_4 hP hD hS hce hcv hcl => ?_) (fun u_1 H locs hw_3 hP hD hS => ?_)
  · obtain rfl := hpx_4
    exact vx_out (fun x hx9 => (hte x hx9).elim) hlocks hce hcv hcl (fun t ht hW => ⟨(), trivial, rfl, hS.F ht⟩) hS.2.2 (Nat.le_of_ble_eq_true rfl) (Nat.le_of_ble_eq_true rfl)
  · exact hw_3.elim
set_option maxHeartbeats 4000000 in
set_option maxRecDepth 100000 in
theorem c_X8_bracketAt (l : Launch) (hst : l.stackTraces = false) (D : va_G) (K : Nat → ClassId) (h0 h1 h2 h3 h4 h5 h6 h7 e1 e2 d1 d2 d3 a1 a2 a3 a4 a5 a6 : Nat) (sz : Nat) (p0 p1 : Int32) : vx_Met l yX8_bracketAt [.code yX8_bracketAt cX8_bracketAt 3 (some .int)] ({ frames := 7, cells := 1, slots := 6, locals := 103 }) (xPre D K [.ref h0, .int p0, .int p1] [(h0, .inr (0, [.ref h1, .ref h2, .ref h3, .ref h4, .ref h5, .ref h6, .ref h7])), (h5, .inr (5, [.ref h1, .ref h2, .ref h4, .ref e1, .ref e2, .int 0])), (h4, .inr (4, [.ref h1, .ref h2, .ref h3, .ref d1, .ref d2, .ref d3])), (h1, .inr (1, [.ref a1, .ref a2, .ref a3, .ref a4, .ref a5, .ref a6, .int 0, .int 0]))] sz) (va_Qi (fun (r : Int32) (u : Unit) => False) (fun u t => xW D (va_A [(h0, .inr (0, [.ref h1, .ref h2, .ref h3, .ref h4, .ref h5, .ref h6, .ref h7])), (h5, .inr (5, [.ref h1, .ref h2, .ref h4, .ref e1, .ref e2, .int 0])), (h4, .inr (4, [.ref h1, .ref h2, .ref h3, .ref d1, .ref d2, .ref d3])), (h1, .inr (1, [.ref a1, .ref a2, .ref a3, .ref a4, .ref a5, .ref a6, .int 0, .int 0]))] sz) ((fun (_ : Unit) => []) u) t) (va_A [(h0, .inr (0, [.ref h1, .ref h2, .ref h3, .ref h4, .ref h5, .ref h6, .ref h7])), (h5, .inr (5, [.ref h1, .ref h2, .ref h4, .ref e1, .ref e2, .int 0])), (h4, .inr (4, [.ref h1, .ref h2, .ref h3, .ref d1, .ref d2, .ref d3])), (h1, .inr (1, [.ref a1, .ref a2, .ref a3, .ref a4, .ref a5, .ref a6, .int 0, .int 0]))] sz)) (vx_X (S := Unit) (fun _ => True) (fun E _ _ => (fun E => E = "java/lang/IndexOutOfBoundsException") E) (va_A [(h0, .inr (0, [.ref h1, .ref h2, .ref h3, .ref h4, .ref h5, .ref h6, .ref h7])), (h5, .inr (5, [.ref h1, .ref h2, .ref h4, .ref e1, .ref e2, .int 0])), (h4, .inr (4, [.ref h1, .ref h2, .ref h3, .ref d1, .ref d2, .ref d3])), (h1, .inr (1, [.ref a1, .ref a2, .ref a3, .ref a4, .ref a5, .ref a6, .int 0, .int 0]))] sz)) 1 6 (va_A [(h0, .inr (0, [.ref h1, .ref h2, .ref h3, .ref h4, .ref h5, .ref h6, .ref h7])), (h5, .inr (5, [.ref h1, .ref h2, .ref h4, .ref e1, .ref e2, .int 0])), (h4, .inr (4, [.ref h1, .ref h2, .ref h3, .ref d1, .ref d2, .ref d3])), (h1, .inr (1, [.ref a1, .ref a2, .ref a3, .ref a4, .ref a5, .ref a6, .int 0, .int 0]))] sz) := by
  refine vx_ofW (cc := cX8_bracketAt) (maxL := 3) (ret := (some .int)) (by decide) rfl ?_
  intro p e s m args below meth c s₁ B hml hte hv
  obtain ⟨rfl, hsz, hP, hD0, hE⟩ := hv
  have hx := B.exec
  have hb := B.bytes
  have hr := B.returns
  have hlocks := B.notSynchronized
  have hts := hE.1.ts ([.ref h0, .int p0, .int p1] : List Value).toArray
  have hnt := hE.1.nt ([.ref h0, .int p0, .int p1] : List Value).toArray
  have hK := hE.2.1
  have hown : s.vm.findClass RX8 = some m.cls := findClass_of_methodNamed B.named
  subst hsz
  have hD := hD0.self (sz := s.heap.size)
  generalize hAe : va_A [(h0, .inr (0, [.ref h1, .ref h2, .ref h3, .ref h4, .ref h5, .ref h6, .ref h7])), (h5, .inr (5, [.ref h1, .ref h2, .ref h4, .ref e1, .ref e2, .int 0])), (h4, .inr (4, [.ref h1, .ref h2, .ref h3, .ref d1, .ref d2, .ref d3])), (h1, .inr (1, [.ref a1, .ref a2, .ref a3, .ref a4, .ref a5, .ref a6, .int 0, .int 0]))] s.heap.size = A at hD hE ⊢
  have hA : ∀ q : Nat, s.heap.size ≤ q → A q := fun q h => by rw [← hAe]; exact Or.inr h
  have hl := lv_entry ([.ref h0, .int p0, .int p1]) (n := 3) (Nat.le_of_ble_eq_true rfl)
  rw [lg_entry_eq]
  generalize (lg_sl ([.ref h0, .int p0, .int p1]) ++ List.replicate (3 - (lg_sl ([.ref h0, .int p0, .int p1])).length) Slot.unset).toArray = ls at hl ⊢
  have hl : lv_has ls 3 [(0, .ref h0), (1, .int p0), (2, .int p1)] := hl
  generalize hH : s.heap = H at hP ⊢
  have hS : va_S A s.heap H [] := by rw [← hH]; exact va_S.rf
  refine lv_aload_n hx hb dX8_bracketAt_0 rfl (lv_at hl 0 rfl) ?_
  refine lv_iload_n hx hb dX8_bracketAt_1 rfl (lv_at hl 1 rfl) ?_
  have hF := va_free (wc := [(h0, .inr (0, [.ref h1, .ref h2, .ref h3, .ref h4, .ref h5, .ref h6, .ref h7])), (h5, .inr (5, [.ref h1, .ref h2, .ref h4, .ref e1, .ref e2, .int 0])), (h4, .inr (4, [.ref h1, .ref h2, .ref h3, .ref d1, .ref d2, .ref d3])), (h1, .inr (1, [.ref a1, .ref a2, .ref a3, .ref a4, .ref a5, .ref a6, .int 0, .int 0]))]) hD hS hA [0, 1, 2, 3] rfl
  refine xkx_v (px := fun E => E = "java/lang/IndexOutOfBoundsException") (w1 := fun (_ : Unit) => []) (wc := [(h0, .inr (0, [.ref h1, .ref h2, .ref h3, .ref h4, .ref h5, .ref h6, .ref h7])), (h5, .inr (5, [.ref h1, .ref h2, .ref h4, .ref e1, .ref e2, .int 0])), (h4, .inr (4, [.ref h1, .ref h2, .ref h3, .ref d1, .ref d2, .ref d3])), (h1, .inr (1, [.ref a1, .ref a2, .ref a3, .ref a4, .ref a5, .ref a6, .int 0, .int 0]))]) (wr := []) (vx_runV (As := [.int p0]) (rest := []) ⟨hx, hb, hml, hown, hts⟩ (c_X8_formAndNeedBracket l hst D K h0 h1 h2 h3 h4 h5 h6 h7 e1 e2 d1 d2 d3 a1 a2 a3 a4 a5 a6 H.size p0) (cwV 1 hts xg_RX8_X8_formAndNeedBracket_272 rfl rfl rfl (by decide +kernel) ⟨Nat.le_of_ble_eq_true rfl, Nat.le_of_ble_eq_true rfl⟩) ⟨xPre.blind, va_recv hK hP (ci := 0) (q0 := 0) rfl rfl, xPre.call hE hS (hP.sub [0, 1, 2, 3] rfl) (hD.sub [0, 1, 2, 3] (by decide) rfl) hF⟩ rfl rfl hl.1 rfl (lv_room (Nat.le_of_ble_eq_true rfl)) dX8_bracketAt_2 ⟨Nat.le_of_ble_eq_true rfl, Nat.le_of_ble_eq_true rfl⟩) hP hD hS hF [0, 1, 2, 3] [] rfl rfl rfl (by decide) (fun E9 ce9 q9 H locs hpx_4 hP hD hS hce hcv hcl => ?_) (fun u_1 H locs hw_3 hP hD hS => ?_)
  · obtain rfl := hpx_4
    exact vx_out (fun x hx9 => (hte x hx9).elim) hlocks hce hcv hcl (fun t ht hW => ⟨(), trivial, rfl, hS.F ht⟩) hS.2.2 (Nat.le_of_ble_eq_true rfl) (Nat.le_of_ble_eq_true rfl)
  · exact hw_3.elim
set_option maxHeartbeats 4000000 in
set_option maxRecDepth 100000 in
theorem c_X8_leastPenalty (l : Launch) (hst : l.stackTraces = false) (D : va_G) (K : Nat → ClassId) (h0 h1 h2 h3 h4 h5 h6 h7 e1 e2 d1 d2 d3 a1 a2 a3 a4 a5 a6 : Nat) (sz : Nat) (p0 : Int32) : vx_Met l yX8_leastPenalty [.code yX8_leastPenalty cX8_leastPenalty 2 (some .int)] ({ frames := 7, cells := 1, slots := 6, locals := 103 }) (xPre D K [.ref h0, .int p0] [(h0, .inr (0, [.ref h1, .ref h2, .ref h3, .ref h4, .ref h5, .ref h6, .ref h7])), (h5, .inr (5, [.ref h1, .ref h2, .ref h4, .ref e1, .ref e2, .int 0])), (h4, .inr (4, [.ref h1, .ref h2, .ref h3, .ref d1, .ref d2, .ref d3])), (h1, .inr (1, [.ref a1, .ref a2, .ref a3, .ref a4, .ref a5, .ref a6, .int 0, .int 0]))] sz) (va_Qi (fun (r : Int32) (u : Unit) => False) (fun u t => xW D (va_A [(h0, .inr (0, [.ref h1, .ref h2, .ref h3, .ref h4, .ref h5, .ref h6, .ref h7])), (h5, .inr (5, [.ref h1, .ref h2, .ref h4, .ref e1, .ref e2, .int 0])), (h4, .inr (4, [.ref h1, .ref h2, .ref h3, .ref d1, .ref d2, .ref d3])), (h1, .inr (1, [.ref a1, .ref a2, .ref a3, .ref a4, .ref a5, .ref a6, .int 0, .int 0]))] sz) ((fun (_ : Unit) => []) u) t) (va_A [(h0, .inr (0, [.ref h1, .ref h2, .ref h3, .ref h4, .ref h5, .ref h6, .ref h7])), (h5, .inr (5, [.ref h1, .ref h2, .ref h4, .ref e1, .ref e2, .int 0])), (h4, .inr (4, [.ref h1, .ref h2, .ref h3, .ref d1, .ref d2, .ref d3])), (h1, .inr (1, [.ref a1, .ref a2, .ref a3, .ref a4, .ref a5, .ref a6, .int 0, .int 0]))] sz)) (vx_X (S := Unit) (fun _ => True) (fun E _ _ => (fun E => E = "java/lang/IndexOutOfBoundsException") E) (va_A [(h0, .inr (0, [.ref h1, .ref h2, .ref h3, .ref h4, .ref h5, .ref h6, .ref h7])), (h5, .inr (5, [.ref h1, .ref h2, .ref h4, .ref e1, .ref e2, .int 0])), (h4, .inr (4, [.ref h1, .ref h2, .ref h3, .ref d1, .ref d2, .ref d3])), (h1, .inr (1, [.ref a1, .ref a2, .ref a3, .ref a4, .ref a5, .ref a6, .int 0, .int 0]))] sz)) 1 6 (va_A [(h0, .inr (0, [.ref h1, .ref h2, .ref h3, .ref h4, .ref h5, .ref h6, .ref h7])), (h5, .inr (5, [.ref h1, .ref h2, .ref h4, .ref e1, .ref e2, .int 0])), (h4, .inr (4, [.ref h1, .ref h2, .ref h3, .ref d1, .ref d2, .ref d3])), (h1, .inr (1, [.ref a1, .ref a2, .ref a3, .ref a4, .ref a5, .ref a6, .int 0, .int 0]))] sz) := by
  refine vx_ofW (cc := cX8_leastPenalty) (maxL := 2) (ret := (some .int)) (by decide) rfl ?_
  intro p e s m args below meth c s₁ B hml hte hv
  obtain ⟨rfl, hsz, hP, hD0, hE⟩ := hv
  have hx := B.exec
  have hb := B.bytes
  have hr := B.returns
  have hlocks := B.notSynchronized
  have hts := hE.1.ts ([.ref h0, .int p0] : List Value).toArray
  have hnt := hE.1.nt ([.ref h0, .int p0] : List Value).toArray
  have hK := hE.2.1
  have hown : s.vm.findClass RX8 = some m.cls := findClass_of_methodNamed B.named
  subst hsz
  have hD := hD0.self (sz := s.heap.size)
  generalize hAe : va_A [(h0, .inr (0, [.ref h1, .ref h2, .ref h3, .ref h4, .ref h5, .ref h6, .ref h7])), (h5, .inr (5, [.ref h1, .ref h2, .ref h4, .ref e1, .ref e2, .int 0])), (h4, .inr (4, [.ref h1, .ref h2, .ref h3, .ref d1, .ref d2, .ref d3])), (h1, .inr (1, [.ref a1, .ref a2, .ref a3, .ref a4, .ref a5, .ref a6, .int 0, .int 0]))] s.heap.size = A at hD hE ⊢
  have hA : ∀ q : Nat, s.heap.size ≤ q → A q := fun q h => by rw [← hAe]; exact Or.inr h
  have hl := lv_entry ([.ref h0, .int p0]) (n := 2) (Nat.le_of_ble_eq_true rfl)
  rw [lg_entry_eq]
  generalize (lg_sl ([.ref h0, .int p0]) ++ List.replicate (2 - (lg_sl ([.ref h0, .int p0])).length) Slot.unset).toArray = ls at hl ⊢
  have hl : lv_has ls 2 [(0, .ref h0), (1, .int p0)] := hl
  generalize hH : s.heap = H at hP ⊢
  have hS : va_S A s.heap H [] := by rw [← hH]; exact va_S.rf
  refine lv_aload_n hx hb dX8_leastPenalty_0 rfl (lv_at hl 0 rfl) ?_
  refine lv_iload_n hx hb dX8_leastPenalty_1 rfl (lv_at hl 1 rfl) ?_
  have hF := va_free (wc := [(h0, .inr (0, [.ref h1, .ref h2, .ref h3, .ref h4, .ref h5, .ref h6, .ref h7])), (h5, .inr (5, [.ref h1, .ref h2, .ref h4, .ref e1, .ref e2, .int 0])), (h4, .inr (4, [.ref h1, .ref h2, .ref h3, .ref d1, .ref d2, .ref d3])), (h1, .inr (1, [.ref a1, .ref a2, .ref a3, .ref a4, .ref a5, .ref a6, .int 0, .int 0]))]) hD hS hA [0, 1, 2, 3] rfl
  refine xkx_v (px := fun E => E = "java/lang/IndexOutOfBoundsException") (w1 := fun (_ : Unit) => []) (wc := [(h0, .inr (0, [.ref h1, .ref h2, .ref h3, .ref h4, .ref h5, .ref h6, .ref h7])), (h5, .inr (5, [.ref h1, .ref h2, .ref h4, .ref e1, .ref e2, .int 0])), (h4, .inr (4, [.ref h1, .ref h2, .ref h3, .ref d1, .ref d2, .ref d3])), (h1, .inr (1, [.ref a1, .ref a2, .ref a3, .ref a4, .ref a5, .ref a6, .int 0, .int 0]))]) (wr := []) (vx_runV (As := [.int p0]) (rest := []) ⟨hx, hb, hml, hown, hts⟩ (c_X8_formAndNeedBracket l hst D K h0 h1 h2 h3 h4 h5 h6 h7 e1 e2 d1 d2 d3 a1 a2 a3 a4 a5 a6 H.size p0) (cwV 1 hts xg_RX8_X8_formAndNeedBracket_272 rfl rfl rfl (by decide +kernel) ⟨Nat.le_of_ble_eq_true rfl, Nat.le_of_ble_eq_true rfl⟩) ⟨xPre.blind, va_recv hK hP (ci := 0) (q0 := 0) rfl rfl, xPre.call hE hS (hP.sub [0, 1, 2, 3] rfl) (hD.sub [0, 1, 2, 3] (by decide) rfl) hF⟩ rfl rfl hl.1 rfl (lv_room (Nat.le_of_ble_eq_true rfl)) dX8_leastPenalty_2 ⟨Nat.le_of_ble_eq_true rfl, Nat.le_of_ble_eq_true rfl⟩) hP hD hS hF [0, 1, 2, 3] [] rfl rfl rfl (by decide) (fun E9 ce9 q9 H locs hpx_4 hP hD hS hce hcv hcl => ?_) (fun u_1 H locs hw_3 hP hD hS => ?_)
  · obtain rfl := hpx_4
    exact vx_out (fun x hx9 => (hte x hx9).elim) hlocks hce hcv hcl (fun t ht hW => ⟨(), trivial, rfl, hS.F ht⟩) hS.2.2 (Nat.le_of_ble_eq_true rfl) (Nat.le_of_ble_eq_true rfl)
  · exact hw_3.elim
set_option maxHeartbeats 4000000 in
set_option maxRecDepth 100000 in
theorem c_X8_leastByTrying (l : Launch) (hst : l.stackTraces = false) (D : va_G) (K : Nat → ClassId) (h0 h1 h2 h3 h4 h5 h6 h7 e1 e2 d1 d2 d3 a1 a2 a3 a4 a5 a6 : Nat) (sz : Nat) (p0 : Int32) : vx_Met l yX8_leastByTrying [.code yX8_leastByTrying cX8_leastByTrying 2 (some .int)] ({ frames := 7, cells := 1, slots := 6, locals := 103 }) (xPre D K [.ref h0, .int p0] [(h0, .inr (0, [.ref h1, .ref h2, .ref h3, .ref h4, .ref h5, .ref h6, .ref h7])), (h5, .inr (5, [.ref h1, .ref h2, .ref h4, .ref e1, .ref e2, .int 0])), (h4, .inr (4, [.ref h1, .ref h2, .ref h3, .ref d1, .ref d2, .ref d3])), (h1, .inr (1, [.ref a1, .ref a2, .ref a3, .ref a4, .ref a5, .ref a6, .int 0, .int 0]))] sz) (va_Qi (fun (r : Int32) (u : Unit) => False) (fun u t => xW D (va_A [(h0, .inr (0, [.ref h1, .ref h2, .ref h3, .ref h4, .ref h5, .ref h6, .ref h7])), (h5, .inr (5, [.ref h1, .ref h2, .ref h4, .ref e1, .ref e2, .int 0])), (h4, .inr (4, [.ref h1, .ref h2, .ref h3, .ref d1, .ref d2, .ref d3])), (h1, .inr (1, [.ref a1, .ref a2, .ref a3, .ref a4, .ref a5, .ref a6, .int 0, .int 0]))] sz) ((fun (_ : Unit) => []) u) t) (va_A [(h0, .inr (0, [.ref h1, .ref h2, .ref h3, .ref h4, .ref h5, .ref h6, .ref h7])), (h5, .inr (5, [.ref h1, .ref h2, .ref h4, .ref e1, .ref e2, .int 0])), (h4, .inr (4, [.ref h1, .ref h2, .ref h3, .ref d1, .ref d2, .ref d3])), (h1, .inr (1, [.ref a1, .ref a2, .ref a3, .ref a4, .ref a5, .ref a6, .int 0, .int 0]))] sz)) (vx_X (S := Unit) (fun _ => True) (fun E _ _ => (fun E => E = "java/lang/IndexOutOfBoundsException") E) (va_A [(h0, .inr (0, [.ref h1, .ref h2, .ref h3, .ref h4, .ref h5, .ref h6, .ref h7])), (h5, .inr (5, [.ref h1, .ref h2, .ref h4, .ref e1, .ref e2, .int 0])), (h4, .inr (4, [.ref h1, .ref h2, .ref h3, .ref d1, .ref d2, .ref d3])), (h1, .inr (1, [.ref a1, .ref a2, .ref a3, .ref a4, .ref a5, .ref a6, .int 0, .int 0]))] sz)) 1 6 (va_A [(h0, .inr (0, [.ref h1, .ref h2, .ref h3, .ref h4, .ref h5, .ref h6, .ref h7])), (h5, .inr (5, [.ref h1, .ref h2, .ref h4, .ref e1, .ref e2, .int 0])), (h4, .inr (4, [.ref h1, .ref h2, .ref h3, .ref d1, .ref d2, .ref d3])), (h1, .inr (1, [.ref a1, .ref a2, .ref a3, .ref a4, .ref a5, .ref a6, .int 0, .int 0]))] sz) := by
  refine vx_ofW (cc := cX8_leastByTrying) (maxL := 2) (ret := (some .int)) (by decide) rfl ?_
  intro p e s m args below meth c s₁ B hml hte hv
  obtain ⟨rfl, hsz, hP, hD0, hE⟩ := hv
  have hx := B.exec
  have hb := B.bytes
  have hr := B.returns
  have hlocks := B.notSynchronized
  have hts := hE.1.ts ([.ref h0, .int p0] : List Value).toArray
  have hnt := hE.1.nt ([.ref h0, .int p0] : List Value).toArray
  have hK := hE.2.1
  have hown : s.vm.findClass RX8 = some m.cls := findClass_of_methodNamed B.named
  subst hsz
  have hD := hD0.self (sz := s.heap.size)
  generalize hAe : va_A [(h0, .inr (0, [.ref h1, .ref h2, .ref h3, .ref h4, .ref h5, .ref h6, .ref h7])), (h5, .inr (5, [.ref h1, .ref h2, .ref h4, .ref e1, .ref e2, .int 0])), (h4, .inr (4, [.ref h1, .ref h2, .ref h3, .ref d1, .ref d2, .ref d3])), (h1, .inr (1, [.ref a1, .ref a2, .ref a3, .ref a4, .ref a5, .ref a6, .int 0, .int 0]))] s.heap.size = A at hD hE ⊢
  have hA : ∀ q : Nat, s.heap.size ≤ q → A q := fun q h => by rw [← hAe]; exact Or.inr h
  have hl := lv_entry ([.ref h0, .int p0]) (n := 2) (Nat.le_of_ble_eq_true rfl)
  rw [lg_entry_eq]
  generalize (lg_sl ([.ref h0, .int p0]) ++ List.replicate (2 - (lg_sl ([.ref h0, .int p0])).length) Slot.unset).toArray = ls at hl ⊢
  have hl : lv_has ls 2 [(0, .ref h0), (1, .int p0)] := hl
  generalize hH : s.heap = H at hP ⊢
  have hS : va_S A s.heap H [] := by rw [← hH]; exact va_S.rf
  refine lv_aload_n hx hb dX8_leastByTrying_0 rfl (lv_at hl 0 rfl) ?_
  refine lv_iload_n hx hb dX8_leastByTrying_1 rfl (lv_at hl 1 rfl) ?_
  have hF := va_free (wc := [(h0, .inr (0, [.ref h1, .ref h2, .ref h3, .ref h4, .ref h5, .ref h6, .ref h7])), (h5, .inr (5, [.ref h1, .ref h2, .ref h4, .ref e1, .ref e2, .int 0])), (h4, .inr (4, [.ref h1, .ref h2, .ref h3, .ref d1, .ref d2, .ref d3])), (h1, .inr (1, [.ref a1, .ref a2, .ref a3, .ref a4, .ref a5, .ref a6, .int 0, .int 0]))]) hD hS hA [0, 1, 2, 3] rfl
  refine xkx_v (px := fun E => E = "java/lang/IndexOutOfBoundsException") (w1 := fun (_ : Unit) => []) (wc := [(h0, .inr (0, [.ref h1, .ref h2, .ref h3, .ref h4, .ref h5, .ref h6, .ref h7])), (h5, .inr (5, [.ref h1, .ref h2, .ref h4, .ref e1, .ref e2, .int 0])), (h4, .inr (4, [.ref h1, .ref h2, .ref h3, .ref d1, .ref d2, .ref d3])), (h1, .inr (1, [.ref a1, .ref a2, .ref a3, .ref a4, .ref a5, .ref a6, .int 0, .int 0]))]) (wr := []) (vx_runV (As := [.int p0]) (rest := []) ⟨hx, hb, hml, hown, hts⟩ (c_X8_formAndNeedBracket l hst D K h0 h1 h2 h3 h4 h5 h6 h7 e1 e2 d1 d2 d3 a1 a2 a3 a4 a5 a6 H.size p0) (cwV 1 hts xg_RX8_X8_formAndNeedBracket_272 rfl rfl rfl (by decide +kernel) ⟨Nat.le_of_ble_eq_true rfl, Nat.le_of_ble_eq_true rfl⟩) ⟨xPre.blind, va_recv hK hP (ci := 0) (q0 := 0) rfl rfl, xPre.call hE hS (hP.sub [0, 1, 2, 3] rfl) (hD.sub [0, 1, 2, 3] (by decide) rfl) hF⟩ rfl rfl hl.1 rfl (lv_room (Nat.le_of_ble_eq_true rfl)) dX8_leastByTrying_2 ⟨Nat.le_of_ble_eq_true rfl, Nat.le_of_ble_eq_true rfl⟩) hP hD hS hF [0, 1, 2, 3] [] rfl rfl rfl (by decide) (fun E9 ce9 q9 H locs hpx_4 hP hD hS hce hcv hcl => ?_) (fun u_1 H locs hw_3 hP hD hS => ?_)
  · obtain rfl := hpx_4
    exact vx_out (fun x hx9 => (hte x hx9).elim) hlocks hce hcv hcl (fun t ht hW => ⟨(), trivial, rfl, hS.F ht⟩) hS.2.2 (Nat.le_of_ble_eq_true rfl) (Nat.le_of_ble_eq_true rfl)
  · exact hw_3.elim
set_option maxHeartbeats 4000000 in
set_option maxRecDepth 100000 in
theorem c_X8_opponent (l : Launch) (hst : l.stackTraces = false) (D : va_G) (K : Nat → ClassId) (h0 h1 h2 h3 h4 h5 h6 h7 e1 e2 d1 d2 d3 a1 a2 a3 a4 a5 a6 : Nat) (sz : Nat) (p0 p1 : Int32) : vx_Met l yX8_opponent [.code yX8_opponent cX8_opponent 3 (some .int)] ({ frames := 7, cells := 1, slots := 6, locals := 103 }) (xPre D K [.ref h0, .int p0, .int p1] [(h0, .inr (0, [.ref h1, .ref h2, .ref h3, .ref h4, .ref h5, .ref h6, .ref h7])), (h5, .inr (5, [.ref h1, .ref h2, .ref h4, .ref e1, .ref e2, .int 0])), (h4, .inr (4, [.ref h1, .ref h2, .ref h3, .ref d1, .ref d2, .ref d3])), (h1, .inr (1, [.ref a1, .ref a2, .ref a3, .ref a4, .ref a5, .ref a6, .int 0, .int 0]))] sz) (va_Qi (fun (r : Int32) (u : Unit) => False) (fun u t => xW D (va_A [(h0, .inr (0, [.ref h1, .ref h2, .ref h3, .ref h4, .ref h5, .ref h6, .ref h7])), (h5, .inr (5, [.ref h1, .ref h2, .ref h4, .ref e1, .ref e2, .int 0])), (h4, .inr (4, [.ref h1, .ref h2, .ref h3, .ref d1, .ref d2, .ref d3])), (h1, .inr (1, [.ref a1, .ref a2, .ref a3, .ref a4, .ref a5, .ref a6, .int 0, .int 0]))] sz) ((fun (_ : Unit) => []) u) t) (va_A [(h0, .inr (0, [.ref h1, .ref h2, .ref h3, .ref h4, .ref h5, .ref h6, .ref h7])), (h5, .inr (5, [.ref h1, .ref h2, .ref h4, .ref e1, .ref e2, .int 0])), (h4, .inr (4, [.ref h1, .ref h2, .ref h3, .ref d1, .ref d2, .ref d3])), (h1, .inr (1, [.ref a1, .ref a2, .ref a3, .ref a4, .ref a5, .ref a6, .int 0, .int 0]))] sz)) (vx_X (S := Unit) (fun _ => True) (fun E _ _ => (fun E => E = "java/lang/IndexOutOfBoundsException") E) (va_A [(h0, .inr (0, [.ref h1, .ref h2, .ref h3, .ref h4, .ref h5, .ref h6, .ref h7])), (h5, .inr (5, [.ref h1, .ref h2, .ref h4, .ref e1, .ref e2, .int 0])), (h4, .inr (4, [.ref h1, .ref h2, .ref h3, .ref d1, .ref d2, .ref d3])), (h1, .inr (1, [.ref a1, .ref a2, .ref a3, .ref a4, .ref a5, .ref a6, .int 0, .int 0]))] sz)) 1 6 (va_A [(h0, .inr (0, [.ref h1, .ref h2, .ref h3, .ref h4, .ref h5, .ref h6, .ref h7])), (h5, .inr (5, [.ref h1, .ref h2, .ref h4, .ref e1, .ref e2, .int 0])), (h4, .inr (4, [.ref h1, .ref h2, .ref h3, .ref d1, .ref d2, .ref d3])), (h1, .inr (1, [.ref a1, .ref a2, .ref a3, .ref a4, .ref a5, .ref a6, .int 0, .int 0]))] sz) := by
  refine vx_ofW (cc := cX8_opponent) (maxL := 3) (ret := (some .int)) (by decide) rfl ?_
  intro p e s m args below meth c s₁ B hml hte hv
  obtain ⟨rfl, hsz, hP, hD0, hE⟩ := hv
  have hx := B.exec
  have hb := B.bytes
  have hr := B.returns
  have hlocks := B.notSynchronized
  have hts := hE.1.ts ([.ref h0, .int p0, .int p1] : List Value).toArray
  have hnt := hE.1.nt ([.ref h0, .int p0, .int p1] : List Value).toArray
  have hK := hE.2.1
  have hown : s.vm.findClass RX8 = some m.cls := findClass_of_methodNamed B.named
  subst hsz
  have hD := hD0.self (sz := s.heap.size)
  generalize hAe : va_A [(h0, .inr (0, [.ref h1, .ref h2, .ref h3, .ref h4, .ref h5, .ref h6, .ref h7])), (h5, .inr (5, [.ref h1, .ref h2, .ref h4, .ref e1, .ref e2, .int 0])), (h4, .inr (4, [.ref h1, .ref h2, .ref h3, .ref d1, .ref d2, .ref d3])), (h1, .inr (1, [.ref a1, .ref a2, .ref a3, .ref a4, .ref a5, .ref a6, .int 0, .int 0]))] s.heap.size = A at hD hE ⊢
  have hA : ∀ q : Nat, s.heap.size ≤ q → A q := fun q h => by rw [← hAe]; exact Or.inr h
  have hl := lv_entry ([.ref h0, .int p0, .int p1]) (n := 3) (Nat.le_of_ble_eq_true rfl)
  rw [lg_entry_eq]
  generalize (lg_sl ([.ref h0, .int p0, .int p1]) ++ List.replicate (3 - (lg_sl ([.ref h0, .int p0, .int p1])).length) Slot.unset).toArray = ls at hl ⊢
  have hl : lv_has ls 3 [(0, .ref h0), (1, .int p0), (2, .int p1)] := hl
  generalize hH : s.heap = H at hP ⊢
  have hS : va_S A s.heap H [] := by rw [← hH]; exact va_S.rf
  refine lv_aload_n hx hb dX8_opponent_0 rfl (lv_at hl 0 rfl) ?_
  refine lv_iload_n hx hb dX8_opponent_1 rfl (lv_at hl 1 rfl) ?_
  have hF := va_free (wc := [(h0, .inr (0, [.ref h1, .ref h2, .ref h3, .ref h4, .ref h5, .ref h6, .ref h7])), (h5, .inr (5, [.ref h1, .ref h2, .ref h4, .ref e1, .ref e2, .int 0])), (h4, .inr (4, [.ref h1, .ref h2, .ref h3, .ref d1, .ref d2, .ref d3])), (h1, .inr (1, [.ref a1, .ref a2, .ref a3, .ref a4, .ref a5, .ref a6, .int 0, .int 0]))]) hD hS hA [0, 1, 2, 3] rfl
  refine xkx_v (px := fun E => E = "java/lang/IndexOutOfBoundsException") (w1 := fun (_ : Unit) => []) (wc := [(h0, .inr (0, [.ref h1, .ref h2, .ref h3, .ref h4, .ref h5, .ref h6, .ref h7])), (h5, .inr (5, [.ref h1, .ref h2, .ref h4, .ref e1, .ref e2, .int 0])), (h4, .inr (4, [.ref h1, .ref h2, .ref h3, .ref d1, .ref d2, .ref d3])), (h1, .inr (1, [.ref a1, .ref a2, .ref a3, .ref a4, .ref a5, .ref a6, .int 0, .int 0]))]) (wr := []) (vx_runV (As := [.int p0]) (rest := []) ⟨hx, hb, hml, hown, hts⟩ (c_X8_formAndNeedBracket l hst D K h0 h1 h2 h3 h4 h5 h6 h7 e1 e2 d1 d2 d3 a1 a2 a3 a4 a5 a6 H.size p0) (cwV 1 hts xg_RX8_X8_formAndNeedBracket_272 rfl rfl rfl (by decide +kernel) ⟨Nat.le_of_ble_eq_true rfl, Nat.le_of_ble_eq_true rfl⟩) ⟨xPre.blind, va_recv hK hP (ci := 0) (q0 := 0) rfl rfl, xPre.call hE hS (hP.sub [0, 1, 2, 3] rfl) (hD.sub [0, 1, 2, 3] (by decide) rfl) hF⟩ rfl rfl hl.1 rfl (lv_room (Nat.le_of_ble_eq_true rfl)) dX8_opponent_2 ⟨Nat.le_of_ble_eq_true rfl, Nat.le_of_ble_eq_true rfl⟩) hP hD hS hF [0, 1, 2, 3] [] rfl rfl rfl (by decide) (fun E9 ce9 q9 H locs hpx_4 hP hD hS hce hcv hcl => ?_) (fun u_1 H locs hw_3 hP hD hS => ?_)
  · obtain rfl := hpx_4
    exact vx_out (fun x hx9 => (hte x hx9).elim) hlocks hce hcv hcl (fun t ht hW => ⟨(), trivial, rfl, hS.F ht⟩) hS.2.2 (Nat.le_of_ble_eq_true rfl) (Nat.le_of_ble_eq_true rfl)
  · exact hw_3.elim
set_option maxHeartbeats 4000000 in
set_option maxRecDepth 100000 in
theorem c_X8_needRound (l : Launch) (hst : l.stackTraces = false) (D : va_G) (K : Nat → ClassId) (h0 h1 h2 h3 h4 h5 h6 h7 c1 : Nat) (sz : Nat) (p0 : Int32) : vx_Met l yX8_needRound [.code yX8_needRound cX8_needRound 2 none] ({ frames := 6, cells := 1, slots := 6, locals := 82 }) (xPre D K [.ref h0, .int p0] [(h0, .inr (0, [.ref h1, .ref h2, .ref h3, .ref h4, .ref h5, .ref h6, .ref h7])), (h3, .inr (3, [.ref h1, .ref c1, .int 0]))] sz) (va_Qv (fun (u : Unit) => False) (fun u t => xW D (va_A [(h0, .inr (0, [.ref h1, .ref h2, .ref h3, .ref h4, .ref h5, .ref h6, .ref h7])), (h3, .inr (3, [.ref h1, .ref c1, .int 0]))] sz) ((fun (_ : Unit) => []) u) t) (va_A [(h0, .inr (0, [.ref h1, .ref h2, .ref h3, .ref h4, .ref h5, .ref h6, .ref h7])), (h3, .inr (3, [.ref h1, .ref c1, .int 0]))] sz)) (vx_X (S := Unit) (fun _ => True) (fun E _ _ => (fun E => E = "java/util/NoSuchElementException") E) (va_A [(h0, .inr (0, [.ref h1, .ref h2, .ref h3, .ref h4, .ref h5, .ref h6, .ref h7])), (h3, .inr (3, [.ref h1, .ref c1, .int 0]))] sz)) 1 6 (va_A [(h0, .inr (0, [.ref h1, .ref h2, .ref h3, .ref h4, .ref h5, .ref h6, .ref h7])), (h3, .inr (3, [.ref h1, .ref c1, .int 0]))] sz) := by
  refine vx_ofW (cc := cX8_needRound) (maxL := 2) (ret := none) (by decide) rfl ?_
  intro p e s m args below meth c s₁ B hml hte hv
  obtain ⟨rfl, hsz, hP, hD0, hE⟩ := hv
  have hx := B.exec
  have hb := B.bytes
  have hr := B.returns
  have hlocks := B.notSynchronized
  have hts := hE.1.ts ([.ref h0, .int p0] : List Value).toArray
  have hnt := hE.1.nt ([.ref h0, .int p0] : List Value).toArray
  have hK := hE.2.1
  have hown : s.vm.findClass RX8 = some m.cls := findClass_of_methodNamed B.named
  subst hsz
  have hD := hD0.self (sz := s.heap.size)
  generalize hAe : va_A [(h0, .inr (0, [.ref h1, .ref h2, .ref h3, .ref h4, .ref h5, .ref h6, .ref h7])), (h3, .inr (3, [.ref h1, .ref c1, .int 0]))] s.heap.size = A at hD hE ⊢
  have hA : ∀ q : Nat, s.heap.size ≤ q → A q := fun q h => by rw [← hAe]; exact Or.inr h
  have hl := lv_entry ([.ref h0, .int p0]) (n := 2) (Nat.le_of_ble_eq_true rfl)
  rw [lg_entry_eq]
  generalize (lg_sl ([.ref h0, .int p0]) ++ List.replicate (2 - (lg_sl ([.ref h0, .int p0])).length) Slot.unset).toArray = ls at hl ⊢
  have hl : lv_has ls 2 [(0, .ref h0), (1, .int p0)] := hl
  generalize hH : s.heap = H at hP ⊢
  have hS : va_S A s.heap H [] := by rw [← hH]; exact va_S.rf
  refine lv_iload_n hx hb dX8_needRound_0 rfl (lv_at hl 1 rfl) ?_
  refine lv_if_lt (tgt := 15) hx hb dX8_needRound_1 (by decide) (fun c_1 => ?_) (fun c_1 => ?_)
  · obtain ⟨sa_2, hs_3⟩ := hE.1.2.2.2.2.1 (379, "there is no such round") (List.mem_of_getElem? (i := 29) rfl)
    exact xthrowN (cls := "java/util/NoSuchElementException") (Y := "java/lang/RuntimeException") (names := ["java/lang/Exception"]) (ic := 210) (k0 := 13) (b0 := xb13) (w := 3) hx hb hst xb13_0 xb13_1 xb13_2 xb13_5 hown (by decide +kernel) (by decide +kernel) (by decide +kernel) (hts _ xw9_16) (hts _ xw9_17) hs_3 (xat_NSE hE.1 _) xot_NSE hE.2.2.1 hE.2.2.2 hS (hl.1.trans hml.symm) dX8_needRound_15 dX8_needRound_18 dX8_needRound_19 (Or.inr ⟨rfl, rfl⟩) dX8_needRound_22 dX8_needRound_25 (fun x hx9 => (hte x hx9).elim) (by decide) (Nat.le_of_ble_eq_true rfl) (Nat.le_of_ble_eq_true rfl) (Nat.le_of_ble_eq_true rfl) hlocks (fun t hW h1 h2 => ⟨(), trivial, rfl, Nat.le_trans hS.1 h1, fun q hq hn => (h2 q (Nat.lt_of_lt_of_le hq hS.1)).trans (hS.2.1 q hq hn)⟩) hS.2.2 (Nat.le_of_ble_eq_true rfl) (Nat.le_of_ble_eq_true rfl)
  · refine lv_iload_n hx hb dX8_needRound_4 rfl (lv_at hl 1 rfl) ?_
    refine lv_aload_n hx hb dX8_needRound_5 rfl (lv_at hl 0 rfl) ?_
    refine va_get (D := D) (ci := 0) (v := .ref h3) (C := RX8) (T := TX8) (N := 7) hx hb hts inlX8 hown hK hP 0 rfl rfl 2 (by decide) (hts _ xw2_1) (fun _ h9 => h9) rfl dX8_needRound_6 ?_
    refine va_getN (D := D) (ci := 3) (v := .int 0) (C := RX1) (T := TX1) (N := 3) hx hb hts inlX1 hown hK hP 1 rfl rfl 2 (by decide) (hnt _ xn36) (fun _ h9 => h9) rfl dX8_needRound_9 ?_
    refine lv_icmp_lt (tgt := 26) hx hb dX8_needRound_12 (by decide) (fun c_4 => absurd c_4 c_1) (fun _ => ?_)
    obtain ⟨sa_5, hs_6⟩ := hE.1.2.2.2.2.1 (379, "there is no such round") (List.mem_of_getElem? (i := 29) rfl)
    exact xthrowN (cls := "java/util/NoSuchElementException") (Y := "java/lang/RuntimeException") (names := ["java/lang/Exception"]) (ic := 210) (k0 := 13) (b0 := xb13) (w := 3) hx hb hst xb13_0 xb13_1 xb13_2 xb13_5 hown (by decide +kernel) (by decide +kernel) (by decide +kernel) (hts _ xw9_16) (hts _ xw9_17) hs_6 (xat_NSE hE.1 _) xot_NSE hE.2.2.1 hE.2.2.2 hS (hl.1.trans hml.symm) dX8_needRound_15 dX8_needRound_18 dX8_needRound_19 (Or.inr ⟨rfl, rfl⟩) dX8_needRound_22 dX8_needRound_25 (fun x hx9 => (hte x hx9).elim) (by decide) (Nat.le_of_ble_eq_true rfl) (Nat.le_of_ble_eq_true rfl) (Nat.le_of_ble_eq_true rfl) hlocks (fun t hW h1 h2 => ⟨(), trivial, rfl, Nat.le_trans hS.1 h1, fun q hq hn => (h2 q (Nat.lt_of_lt_of_le hq hS.1)).trans (hS.2.1 q hq hn)⟩) hS.2.2 (Nat.le_of_ble_eq_true rfl) (Nat.le_of_ble_eq_true rfl)
set_option maxHeartbeats 4000000 in
set_option maxRecDepth 100000 in
theorem c_X8_rooms (l : Launch) (hst : l.stackTraces = false) (D : va_G) (K : Nat → ClassId) (h0 h1 h2 h3 h4 h5 h6 h7 c1 : Nat) (sz : Nat) (p0 : Int32) : vx_Met l yX8_rooms [.code yX8_rooms cX8_rooms 2 (some .int)] ({ frames := 7, cells := 1, slots := 6, locals := 103 }) (xPre D K [.ref h0, .int p0] [(h0, .inr (0, [.ref h1, .ref h2, .ref h3, .ref h4, .ref h5, .ref h6, .ref h7])), (h3, .inr (3, [.ref h1, .ref c1, .int 0]))] sz) (va_Qi (fun (r : Int32) (u : Unit) => False) (fun u t => xW D (va_A [(h0, .inr (0, [.ref h1, .ref h2, .ref h3, .ref h4, .ref h5, .ref h6, .ref h7])), (h3, .inr (3, [.ref h1, .ref c1, .int 0]))] sz) ((fun (_ : Unit) => []) u) t) (va_A [(h0, .inr (0, [.ref h1, .ref h2, .ref h3, .ref h4, .ref h5, .ref h6, .ref h7])), (h3, .inr (3, [.ref h1, .ref c1, .int 0]))] sz)) (vx_X (S := Unit) (fun _ => True) (fun E _ _ => (fun E => E = "java/util/NoSuchElementException") E) (va_A [(h0, .inr (0, [.ref h1, .ref h2, .ref h3, .ref h4, .ref h5, .ref h6, .ref h7])), (h3, .inr (3, [.ref h1, .ref c1, .int 0]))] sz)) 1 6 (va_A [(h0, .inr (0, [.ref h1, .ref h2, .ref h3, .ref h4, .ref h5, .ref h6, .ref h7])), (h3, .inr (3, [.ref h1, .ref c1, .int 0]))] sz) := by
  refine vx_ofW (cc := cX8_rooms) (maxL := 2) (ret := (some .int)) (by decide) rfl ?_
  intro p e s m args below meth c s₁ B hml hte hv
  obtain ⟨rfl, hsz, hP, hD0, hE⟩ := hv
  have hx := B.exec
  have hb := B.bytes
  have hr := B.returns
  have hlocks := B.notSynchronized
  have hts := hE.1.ts ([.ref h0, .int p0] : List Value).toArray
  have hnt := hE.1.nt ([.ref h0, .int p0] : List Value).toArray
  have hK := hE.2.1
  have hown : s.vm.findClass RX8 = some m.cls := findClass_of_methodNamed B.named
  subst hsz
  have hD := hD0.self (sz := s.heap.size)
  generalize hAe : va_A [(h0, .inr (0, [.ref h1, .ref h2, .ref h3, .ref h4, .ref h5, .ref h6, .ref h7])), (h3, .inr (3, [.ref h1, .ref c1, .int 0]))] s.heap.size = A at hD hE ⊢
  have hA : ∀ q : Nat, s.heap.size ≤ q → A q := fun q h => by rw [← hAe]; exact Or.inr h
  have hl := lv_entry ([.ref h0, .int p0]) (n := 2) (Nat.le_of_ble_eq_true rfl)
  rw [lg_entry_eq]
  generalize (lg_sl ([.ref h0, .int p0]) ++ List.replicate (2 - (lg_sl ([.ref h0, .int p0])).length) Slot.unset).toArray = ls at hl ⊢
  have hl : lv_has ls 2 [(0, .ref h0), (1, .int p0)] := hl
  generalize hH : s.heap = H at hP ⊢
  have hS : va_S A s.heap H [] := by rw [← hH]; exact va_S.rf
  refine lv_aload_n hx hb dX8_rooms_0 rfl (lv_at hl 0 rfl) ?_
  refine lv_iload_n hx hb dX8_rooms_1 rfl (lv_at hl 1 rfl) ?_
  have hF := va_free (wc := [(h0, .inr (0, [.ref h1, .ref h2, .ref h3, .ref h4, .ref h5, .ref h6, .ref h7])), (h3, .inr (3, [.ref h1, .ref c1, .int 0]))]) hD hS hA [0, 1] rfl
  refine xkx_v (px := fun E => E = "java/util/NoSuchElementException") (w1 := fun (_ : Unit) => []) (wc := [(h0, .inr (0, [.ref h1, .ref h2, .ref h3, .ref h4, .ref h5, .ref h6, .ref h7])), (h3, .inr (3, [.ref h1, .ref c1, .int 0]))]) (wr := []) (vx_runV (As := [.int p0]) (rest := []) ⟨hx, hb, hml, hown, hts⟩ (c_X8_needRound l hst D K h0 h1 h2 h3 h4 h5 h6 h7 c1 H.size p0) (cwV 1 hts xg_RX8_X8_needRound_304 rfl rfl rfl (by decide +kernel) ⟨Nat.le_of_ble_eq_true rfl, Nat.le_of_ble_eq_true rfl⟩) ⟨xPre.blind, va_recv hK hP (ci := 0) (q0 := 0) rfl rfl, xPre.call hE hS (hP.sub [0, 1] rfl) (hD.sub [0, 1] (by decide) rfl) hF⟩ rfl rfl hl.1 rfl (lv_room (Nat.le_of_ble_eq_true rfl)) dX8_rooms_2 ⟨Nat.le_of_ble_eq_true rfl, Nat.le_of_ble_eq_true rfl⟩) hP hD hS hF [0, 1] [] rfl rfl rfl (by decide) (fun E9 ce9 q9 H locs hpx_4 hP hD hS hce hcv hcl => ?_) (fun u_1 H locs hw_3 hP hD hS => ?_)
  · obtain rfl := hpx_4
    exact vx_out (fun x hx9 => (hte x hx9).elim) hlocks hce hcv hcl (fun t ht hW => ⟨(), trivial, rfl, hS.F ht⟩) hS.2.2 (Nat.le_of_ble_eq_true rfl) (Nat.le_of_ble_eq_true rfl)
  · exact hw_3.elim
set_option maxHeartbeats 4000000 in
set_option maxRecDepth 100000 in
theorem c_X8_teamIn (l : Launch) (hst : l.stackTraces = false) (D : va_G) (K : Nat → ClassId) (h0 h1 h2 h3 h4 h5 h6 h7 c1 : Nat) (sz : Nat) (p0 p1 p2 : Int32) : vx_Met l yX8_teamIn [.code yX8_teamIn cX8_teamIn 5 (some .int)] ({ frames := 7, cells := 1, slots := 6, locals := 103 }) (xPre D K [.ref h0, .int p0, .int p1, .int p2] [(h0, .inr (0, [.ref h1, .ref h2, .ref h3, .ref h4, .ref h5, .ref h6, .ref h7])), (h3, .inr (3, [.ref h1, .ref c1, .int 0]))] sz) (va_Qi (fun (r : Int32) (u : Unit) => False) (fun u t => xW D (va_A [(h0, .inr (0, [.ref h1, .ref h2, .ref h3, .ref h4, .ref h5, .ref h6, .ref h7])), (h3, .inr (3, [.ref h1, .ref c1, .int 0]))] sz) ((fun (_ : Unit) => []) u) t) (va_A [(h0, .inr (0, [.ref h1, .ref h2, .ref h3, .ref h4, .ref h5, .ref h6, .ref h7])), (h3, .inr (3, [.ref h1, .ref c1, .int 0]))] sz)) (vx_X (S := Unit) (fun _ => True) (fun E _ _ => (fun E => E = "java/util/NoSuchElementException") E) (va_A [(h0, .inr (0, [.ref h1, .ref h2, .ref h3, .ref h4, .ref h5, .ref h6, .ref h7])), (h3, .inr (3, [.ref h1, .ref c1, .int 0]))] sz)) 1 6 (va_A [(h0, .inr (0, [.ref h1, .ref h2, .ref h3, .ref h4, .ref h5, .ref h6, .ref h7])), (h3, .inr (3, [.ref h1, .ref c1, .int 0]))] sz) := by
  refine vx_ofW (cc := cX8_teamIn) (maxL := 5) (ret := (some .int)) (by decide) rfl ?_
  intro p e s m args below meth c s₁ B hml hte hv
  obtain ⟨rfl, hsz, hP, hD0, hE⟩ := hv
  have hx := B.exec
  have hb := B.bytes
  have hr := B.returns
  have hlocks := B.notSynchronized
  have hts := hE.1.ts ([.ref h0, .int p0, .int p1, .int p2] : List Value).toArray
  have hnt := hE.1.nt ([.ref h0, .int p0, .int p1, .int p2] : List Value).toArray
  have hK := hE.2.1
  have hown : s.vm.findClass RX8 = some m.cls := findClass_of_methodNamed B.named
  subst hsz
  have hD := hD0.self (sz := s.heap.size)
  generalize hAe : va_A [(h0, .inr (0, [.ref h1, .ref h2, .ref h3, .ref h4, .ref h5, .ref h6, .ref h7])), (h3, .inr (3, [.ref h1, .ref c1, .int 0]))] s.heap.size = A at hD hE ⊢
  have hA : ∀ q : Nat, s.heap.size ≤ q → A q := fun q h => by rw [← hAe]; exact Or.inr h
  have hl := lv_entry ([.ref h0, .int p0, .int p1, .int p2]) (n := 5) (Nat.le_of_ble_eq_true rfl)
  rw [lg_entry_eq]
  generalize (lg_sl ([.ref h0, .int p0, .int p1, .int p2]) ++ List.replicate (5 - (lg_sl ([.ref h0, .int p0, .int p1, .int p2])).length) Slot.unset).toArray = ls at hl ⊢
  have hl : lv_has ls 5 [(0, .ref h0), (1, .int p0), (2, .int p1), (3, .int p2)] := hl
  generalize hH : s.heap = H at hP ⊢
  have hS : va_S A s.heap H [] := by rw [← hH]; exact va_S.rf
  refine lv_aload_n hx hb dX8_teamIn_0 rfl (lv_at hl 0 rfl) ?_
  refine lv_iload_n hx hb dX8_teamIn_1 rfl (lv_at hl 1 rfl) ?_
  have hF := va_free (wc := [(h0, .inr (0, [.ref h1, .ref h2, .ref h3, .ref h4, .ref h5, .ref h6, .ref h7])), (h3, .inr (3, [.ref h1, .ref c1, .int 0]))]) hD hS hA [0, 1] rfl
  refine xkx_v (px := fun E => E = "java/util/NoSuchElementException") (w1 := fun (_ : Unit) => []) (wc := [(h0, .inr (0, [.ref h1, .ref h2, .ref h3, .ref h4, .ref h5, .ref h6, .ref h7])), (h3, .inr (3, [.ref h1, .ref c1, .int 0]))]) (wr := []) (vx_runV (As := [.int p0]) (rest := []) ⟨hx, hb, hml, hown, hts⟩ (c_X8_needRound l hst D K h0 h1 h2 h3 h4 h5 h6 h7 c1 H.size p0) (cwV 1 hts xg_RX8_X8_needRound_304 rfl rfl rfl (by decide +kernel) ⟨Nat.le_of_ble_eq_true rfl, Nat.le_of_ble_eq_true rfl⟩) ⟨xPre.blind, va_recv hK hP (ci := 0) (q0 := 0) rfl rfl, xPre.call hE hS (hP.sub [0, 1] rfl) (hD.sub [0, 1] (by decide) rfl) hF⟩ rfl rfl hl.1 rfl (lv_room (Nat.le_of_ble_eq_true rfl)) dX8_teamIn_2 ⟨Nat.le_of_ble_eq_true rfl, Nat.le_of_ble_eq_true rfl⟩) hP hD hS hF [0, 1] [] rfl rfl rfl (by decide) (fun E9 ce9 q9 H locs hpx_4 hP hD hS hce hcv hcl => ?_) (fun u_1 H locs hw_3 hP hD hS => ?_)
  · obtain rfl := hpx_4
    exact vx_out (fun x hx9 => (hte x hx9).elim) hlocks hce hcv hcl (fun t ht hW => ⟨(), trivial, rfl, hS.F ht⟩) hS.2.2 (Nat.le_of_ble_eq_true rfl) (Nat.le_of_ble_eq_true rfl)
  · exact hw_3.elim
set_option maxHeartbeats 4000000 in
set_option maxRecDepth 100000 in
theorem c_X8_judgeIn (l : Launch) (hst : l.stackTraces = false) (D : va_G) (K : Nat → ClassId) (h0 h1 h2 h3 h4 h5 h6 h7 c1 : Nat) (sz : Nat) (p0 p1 : Int32) : vx_Met l yX8_judgeIn [.code yX8_judgeIn cX8_judgeIn 3 (some .int)] ({ frames := 7, cells := 1, slots := 6, locals := 103 }) (xPre D K [.ref h0, .int p0, .int p1] [(h0, .inr (0, [.ref h1, .ref h2, .ref h3, .ref h4, .ref h5, .ref h6, .ref h7])), (h3, .inr (3, [.ref h1, .ref c1, .int 0]))] sz) (va_Qi (fun (r : Int32) (u : Unit) => False) (fun u t => xW D (va_A [(h0, .inr (0, [.ref h1, .ref h2, .ref h3, .ref h4, .ref h5, .ref h6, .ref h7])), (h3, .inr (3, [.ref h1, .ref c1, .int 0]))] sz) ((fun (_ : Unit) => []) u) t) (va_A [(h0, .inr (0, [.ref h1, .ref h2, .ref h3, .ref h4, .ref h5, .ref h6, .ref h7])), (h3, .inr (3, [.ref h1, .ref c1, .int 0]))] sz)) (vx_X (S := Unit) (fun _ => True) (fun E _ _ => (fun E => E = "java/util/NoSuchElementException") E) (va_A [(h0, .inr (0, [.ref h1, .ref h2, .ref h3, .ref h4, .ref h5, .ref h6, .ref h7])), (h3, .inr (3, [.ref h1, .ref c1, .int 0]))] sz)) 1 6 (va_A [(h0, .inr (0, [.ref h1, .ref h2, .ref h3, .ref h4, .ref h5, .ref h6, .ref h7])), (h3, .inr (3, [.ref h1, .ref c1, .int 0]))] sz) := by
  refine vx_ofW (cc := cX8_judgeIn) (maxL := 3) (ret := (some .int)) (by decide) rfl ?_
  intro p e s m args below meth c s₁ B hml hte hv
  obtain ⟨rfl, hsz, hP, hD0, hE⟩ := hv
  have hx := B.exec
  have hb := B.bytes
  have hr := B.returns
  have hlocks := B.notSynchronized
  have hts := hE.1.ts ([.ref h0, .int p0, .int p1] : List Value).toArray
  have hnt := hE.1.nt ([.ref h0, .int p0, .int p1] : List Value).toArray
  have hK := hE.2.1
  have hown : s.vm.findClass RX8 = some m.cls := findClass_of_methodNamed B.named
  subst hsz
  have hD := hD0.self (sz := s.heap.size)
  generalize hAe : va_A [(h0, .inr (0, [.ref h1, .ref h2, .ref h3, .ref h4, .ref h5, .ref h6, .ref h7])), (h3, .inr (3, [.ref h1, .ref c1, .int 0]))] s.heap.size = A at hD hE ⊢
  have hA : ∀ q : Nat, s.heap.size ≤ q → A q := fun q h => by rw [← hAe]; exact Or.inr h
  have hl := lv_entry ([.ref h0, .int p0, .int p1]) (n := 3) (Nat.le_of_ble_eq_true rfl)
  rw [lg_entry_eq]
  generalize (lg_sl ([.ref h0, .int p0, .int p1]) ++ List.replicate (3 - (lg_sl ([.ref h0, .int p0, .int p1])).length) Slot.unset).toArray = ls at hl ⊢
  have hl : lv_has ls 3 [(0, .ref h0), (1, .int p0), (2, .int p1)] := hl
  generalize hH : s.heap = H at hP ⊢
  have hS : va_S A s.heap H [] := by rw [← hH]; exact va_S.rf
  refine lv_aload_n hx hb dX8_judgeIn_0 rfl (lv_at hl 0 rfl) ?_
  refine lv_iload_n hx hb dX8_judgeIn_1 rfl (lv_at hl 1 rfl) ?_
  have hF := va_free (wc := [(h0, .inr (0, [.ref h1, .ref h2, .ref h3, .ref h4, .ref h5, .ref h6, .ref h7])), (h3, .inr (3, [.ref h1, .ref c1, .int 0]))]) hD hS hA [0, 1] rfl
  refine xkx_v (px := fun E => E = "java/util/NoSuchElementException") (w1 := fun (_ : Unit) => []) (wc := [(h0, .inr (0, [.ref h1, .ref h2, .ref h3, .ref h4, .ref h5, .ref h6, .ref h7])), (h3, .inr (3, [.ref h1, .ref c1, .int 0]))]) (wr := []) (vx_runV (As := [.int p0]) (rest := []) ⟨hx, hb, hml, hown, hts⟩ (c_X8_needRound l hst D K h0 h1 h2 h3 h4 h5 h6 h7 c1 H.size p0) (cwV 1 hts xg_RX8_X8_needRound_304 rfl rfl rfl (by decide +kernel) ⟨Nat.le_of_ble_eq_true rfl, Nat.le_of_ble_eq_true rfl⟩) ⟨xPre.blind, va_recv hK hP (ci := 0) (q0 := 0) rfl rfl, xPre.call hE hS (hP.sub [0, 1] rfl) (hD.sub [0, 1] (by decide) rfl) hF⟩ rfl rfl hl.1 rfl (lv_room (Nat.le_of_ble_eq_true rfl)) dX8_judgeIn_2 ⟨Nat.le_of_ble_eq_true rfl, Nat.le_of_ble_eq_true rfl⟩) hP hD hS hF [0, 1] [] rfl rfl rfl (by decide) (fun E9 ce9 q9 H locs hpx_4 hP hD hS hce hcv hcl => ?_) (fun u_1 H locs hw_3 hP hD hS => ?_)
  · obtain rfl := hpx_4
    exact vx_out (fun x hx9 => (hte x hx9).elim) hlocks hce hcv hcl (fun t ht hW => ⟨(), trivial, rfl, hS.F ht⟩) hS.2.2 (Nat.le_of_ble_eq_true rfl) (Nat.le_of_ble_eq_true rfl)
  · exact hw_3.elim
set_option maxHeartbeats 4000000 in
set_option maxRecDepth 100000 in
theorem c_X8_penaltyOf (l : Launch) (hst : l.stackTraces = false) (D : va_G) (K : Nat → ClassId) (h0 h1 h2 h3 h4 h5 h6 h7 c1 : Nat) (sz : Nat) (p0 p1 : Int32) : vx_Met l yX8_penaltyOf [.code yX8_penaltyOf cX8_penaltyOf 3 (some .int)] ({ frames := 7, cells := 1, slots := 6, locals := 103 }) (xPre D K [.ref h0, .int p0, .int p1] [(h0, .inr (0, [.ref h1, .ref h2, .ref h3, .ref h4, .ref h5, .ref h6, .ref h7])), (h3, .inr (3, [.ref h1, .ref c1, .int 0]))] sz) (va_Qi (fun (r : Int32) (u : Unit) => False) (fun u t => xW D (va_A [(h0, .inr (0, [.ref h1, .ref h2, .ref h3, .ref h4, .ref h5, .ref h6, .ref h7])), (h3, .inr (3, [.ref h1, .ref c1, .int 0]))] sz) ((fun (_ : Unit) => []) u) t) (va_A [(h0, .inr (0, [.ref h1, .ref h2, .ref h3, .ref h4, .ref h5, .ref h6, .ref h7])), (h3, .inr (3, [.ref h1, .ref c1, .int 0]))] sz)) (vx_X (S := Unit) (fun _ => True) (fun E _ _ => (fun E => E = "java/util/NoSuchElementException") E) (va_A [(h0, .inr (0, [.ref h1, .ref h2, .ref h3, .ref h4, .ref h5, .ref h6, .ref h7])), (h3, .inr (3, [.ref h1, .ref c1, .int 0]))] sz)) 1 6 (va_A [(h0, .inr (0, [.ref h1, .ref h2, .ref h3, .ref h4, .ref h5, .ref h6, .ref h7])), (h3, .inr (3, [.ref h1, .ref c1, .int 0]))] sz) := by
  refine vx_ofW (cc := cX8_penaltyOf) (maxL := 3) (ret := (some .int)) (by decide) rfl ?_
  intro p e s m args below meth c s₁ B hml hte hv
  obtain ⟨rfl, hsz, hP, hD0, hE⟩ := hv
  have hx := B.exec
  have hb := B.bytes
  have hr := B.returns
  have hlocks := B.notSynchronized
  have hts := hE.1.ts ([.ref h0, .int p0, .int p1] : List Value).toArray
  have hnt := hE.1.nt ([.ref h0, .int p0, .int p1] : List Value).toArray
  have hK := hE.2.1
  have hown : s.vm.findClass RX8 = some m.cls := findClass_of_methodNamed B.named
  subst hsz
  have hD := hD0.self (sz := s.heap.size)
  generalize hAe : va_A [(h0, .inr (0, [.ref h1, .ref h2, .ref h3, .ref h4, .ref h5, .ref h6, .ref h7])), (h3, .inr (3, [.ref h1, .ref c1, .int 0]))] s.heap.size = A at hD hE ⊢
  have hA : ∀ q : Nat, s.heap.size ≤ q → A q := fun q h => by rw [← hAe]; exact Or.inr h
  have hl := lv_entry ([.ref h0, .int p0, .int p1]) (n := 3) (Nat.le_of_ble_eq_true rfl)
  rw [lg_entry_eq]
  generalize (lg_sl ([.ref h0, .int p0, .int p1]) ++ List.replicate (3 - (lg_sl ([.ref h0, .int p0, .int p1])).length) Slot.unset).toArray = ls at hl ⊢
  have hl : lv_has ls 3 [(0, .ref h0), (1, .int p0), (2, .int p1)] := hl
  generalize hH : s.heap = H at hP ⊢
  have hS : va_S A s.heap H [] := by rw [← hH]; exact va_S.rf
  refine lv_aload_n hx hb dX8_penaltyOf_0 rfl (lv_at hl 0 rfl) ?_
  refine lv_iload_n hx hb dX8_penaltyOf_1 rfl (lv_at hl 1 rfl) ?_
  have hF := va_free (wc := [(h0, .inr (0, [.ref h1, .ref h2, .ref h3, .ref h4, .ref h5, .ref h6, .ref h7])), (h3, .inr (3, [.ref h1, .ref c1, .int 0]))]) hD hS hA [0, 1] rfl
  refine xkx_v (px := fun E => E = "java/util/NoSuchElementException") (w1 := fun (_ : Unit) => []) (wc := [(h0, .inr (0, [.ref h1, .ref h2, .ref h3, .ref h4, .ref h5, .ref h6, .ref h7])), (h3, .inr (3, [.ref h1, .ref c1, .int 0]))]) (wr := []) (vx_runV (As := [.int p0]) (rest := []) ⟨hx, hb, hml, hown, hts⟩ (c_X8_needRound l hst D K h0 h1 h2 h3 h4 h5 h6 h7 c1 H.size p0) (cwV 1 hts xg_RX8_X8_needRound_304 rfl rfl rfl (by decide +kernel) ⟨Nat.le_of_ble_eq_true rfl, Nat.le_of_ble_eq_true rfl⟩) ⟨xPre.blind, va_recv hK hP (ci := 0) (q0 := 0) rfl rfl, xPre.call hE hS (hP.sub [0, 1] rfl) (hD.sub [0, 1] (by decide) rfl) hF⟩ rfl rfl hl.1 rfl (lv_room (Nat.le_of_ble_eq_true rfl)) dX8_penaltyOf_2 ⟨Nat.le_of_ble_eq_true rfl, Nat.le_of_ble_eq_true rfl⟩) hP hD hS hF [0, 1] [] rfl rfl rfl (by decide) (fun E9 ce9 q9 H locs hpx_4 hP hD hS hce hcv hcl => ?_) (fun u_1 H locs hw_3 hP hD hS => ?_)
  · obtain rfl := hpx_4
    exact vx_out (fun x hx9 => (hte x hx9).elim) hlocks hce hcv hcl (fun t ht hW => ⟨(), trivial, rfl, hS.F ht⟩) hS.2.2 (Nat.le_of_ble_eq_true rfl) (Nat.le_of_ble_eq_true rfl)
  · exact hw_3.elim
set_option maxHeartbeats 4000000 in
set_option maxRecDepth 100000 in
theorem c_X8_winner (l : Launch) (hst : l.stackTraces = false) (D : va_G) (K : Nat → ClassId) (h0 h1 h2 h3 h4 h5 h6 h7 c1 : Nat) (sz : Nat) (p0 p1 : Int32) : vx_Met l yX8_winner [.code yX8_winner cX8_winner 3 (some .char)] ({ frames := 7, cells := 1, slots := 6, locals := 103 }) (xPre D K [.ref h0, .int p0, .int p1] [(h0, .inr (0, [.ref h1, .ref h2, .ref h3, .ref h4, .ref h5, .ref h6, .ref h7])), (h3, .inr (3, [.ref h1, .ref c1, .int 0]))] sz) (va_Qi (fun (r : Int32) (u : Unit) => False) (fun u t => xW D (va_A [(h0, .inr (0, [.ref h1, .ref h2, .ref h3, .ref h4, .ref h5, .ref h6, .ref h7])), (h3, .inr (3, [.ref h1, .ref c1, .int 0]))] sz) ((fun (_ : Unit) => []) u) t) (va_A [(h0, .inr (0, [.ref h1, .ref h2, .ref h3, .ref h4, .ref h5, .ref h6, .ref h7])), (h3, .inr (3, [.ref h1, .ref c1, .int 0]))] sz)) (vx_X (S := Unit) (fun _ => True) (fun E _ _ => (fun E => E = "java/util/NoSuchElementException") E) (va_A [(h0, .inr (0, [.ref h1, .ref h2, .ref h3, .ref h4, .ref h5, .ref h6, .ref h7])), (h3, .inr (3, [.ref h1, .ref c1, .int 0]))] sz)) 1 6 (va_A [(h0, .inr (0, [.ref h1, .ref h2, .ref h3, .ref h4, .ref h5, .ref h6, .ref h7])), (h3, .inr (3, [.ref h1, .ref c1, .int 0]))] sz) := by
  refine vx_ofW (cc := cX8_winner) (maxL := 3) (ret := (some .char)) (by decide) rfl ?_
  intro p e s m args below meth c s₁ B hml hte hv
  obtain ⟨rfl, hsz, hP, hD0, hE⟩ := hv
  have hx := B.exec
  have hb := B.bytes
  have hr := B.returns
  have hlocks := B.notSynchronized
  have hts := hE.1.ts ([.ref h0, .int p0, .int p1] : List Value).toArray
  have hnt := hE.1.nt ([.ref h0, .int p0, .int p1] : List Value).toArray
  have hK := hE.2.1
  have hown : s.vm.findClass RX8 = some m.cls := findClass_of_methodNamed B.named
  subst hsz
  have hD := hD0.self (sz := s.heap.size)
  generalize hAe : va_A [(h0, .inr (0, [.ref h1, .ref h2, .ref h3, .ref h4, .ref h5, .ref h6, .ref h7])), (h3, .inr (3, [.ref h1, .ref c1, .int 0]))] s.heap.size = A at hD hE ⊢
  have hA : ∀ q : Nat, s.heap.size ≤ q → A q := fun q h => by rw [← hAe]; exact Or.inr h
  have hl := lv_entry ([.ref h0, .int p0, .int p1]) (n := 3) (Nat.le_of_ble_eq_true rfl)
  rw [lg_entry_eq]
  generalize (lg_sl ([.ref h0, .int p0, .int p1]) ++ List.replicate (3 - (lg_sl ([.ref h0, .int p0, .int p1])).length) Slot.unset).toArray = ls at hl ⊢
  have hl : lv_has ls 3 [(0, .ref h0), (1, .int p0), (2, .int p1)] := hl
  generalize hH : s.heap = H at hP ⊢
  have hS : va_S A s.heap H [] := by rw [← hH]; exact va_S.rf
  refine lv_aload_n hx hb dX8_winner_0 rfl (lv_at hl 0 rfl) ?_
  refine lv_iload_n hx hb dX8_winner_1 rfl (lv_at hl 1 rfl) ?_
  have hF := va_free (wc := [(h0, .inr (0, [.ref h1, .ref h2, .ref h3, .ref h4, .ref h5, .ref h6, .ref h7])), (h3, .inr (3, [.ref h1, .ref c1, .int 0]))]) hD hS hA [0, 1] rfl
  refine xkx_v (px := fun E => E = "java/util/NoSuchElementException") (w1 := fun (_ : Unit) => []) (wc := [(h0, .inr (0, [.ref h1, .ref h2, .ref h3, .ref h4, .ref h5, .ref h6, .ref h7])), (h3, .inr (3, [.ref h1, .ref c1, .int 0]))]) (wr := []) (vx_runV (As := [.int p0]) (rest := []) ⟨hx, hb, hml, hown, hts⟩ (c_X8_needRound l hst D K h0 h1 h2 h3 h4 h5 h6 h7 c1 H.size p0) (cwV 1 hts xg_RX8_X8_needRound_304 rfl rfl rfl (by decide +kernel) ⟨Nat.le_of_ble_eq_true rfl, Nat.le_of_ble_eq_true rfl⟩) ⟨xPre.blind, va_recv hK hP (ci := 0) (q0 := 0) rfl rfl, xPre.call hE hS (hP.sub [0, 1] rfl) (hD.sub [0, 1] (by decide) rfl) hF⟩ rfl rfl hl.1 rfl (lv_room (Nat.le_of_ble_eq_true rfl)) dX8_winner_2 ⟨Nat.le_of_ble_eq_true rfl, Nat.le_of_ble_eq_true rfl⟩) hP hD hS hF [0, 1] [] rfl rfl rfl (by decide) (fun E9 ce9 q9 H locs hpx_4 hP hD hS hce hcv hcl => ?_) (fun u_1 H locs hw_3 hP hD hS => ?_)
  · obtain rfl := hpx_4
    exact vx_out (fun x hx9 => (hte x hx9).elim) hlocks hce hcv hcl (fun t ht hW => ⟨(), trivial, rfl, hS.F ht⟩) hS.2.2 (Nat.le_of_ble_eq_true rfl) (Nat.le_of_ble_eq_true rfl)
  · exact hw_3.elim
set_option maxHeartbeats 4000000 in
set_option maxRecDepth 100000 in
theorem c_X8_missing (l : Launch) (hst : l.stackTraces = false) (D : va_G) (K : Nat → ClassId) (h0 h1 h2 h3 h4 h5 h6 h7 c1 : Nat) (sz : Nat) : vx_Met l yX8_missing [.code yX8_missing cX8_missing 1 (some .int)] ({ frames := 7, cells := 1, slots := 6, locals := 102 }) (xPre D K [.ref h0] [(h0, .inr (0, [.ref h1, .ref h2, .ref h3, .ref h4, .ref h5, .ref h6, .ref h7])), (h3, .inr (3, [.ref h1, .ref c1, .int 0]))] sz) (va_Qi (fun (r : Int32) (u : Unit) => False) (fun u t => xW D (va_A [(h0, .inr (0, [.ref h1, .ref h2, .ref h3, .ref h4, .ref h5, .ref h6, .ref h7])), (h3, .inr (3, [.ref h1, .ref c1, .int 0]))] sz) ((fun (_ : Unit) => []) u) t) (va_A [(h0, .inr (0, [.ref h1, .ref h2, .ref h3, .ref h4, .ref h5, .ref h6, .ref h7])), (h3, .inr (3, [.ref h1, .ref c1, .int 0]))] sz)) (vx_X (S := Unit) (fun _ => True) (fun E _ _ => (fun E => E = "java/lang/IllegalStateException") E) (va_A [(h0, .inr (0, [.ref h1, .ref h2, .ref h3, .ref h4, .ref h5, .ref h6, .ref h7])), (h3, .inr (3, [.ref h1, .ref c1, .int 0]))] sz)) 1 6 (va_A [(h0, .inr (0, [.ref h1, .ref h2, .ref h3, .ref h4, .ref h5, .ref h6, .ref h7])), (h3, .inr (3, [.ref h1, .ref c1, .int 0]))] sz) := by
  refine vx_ofW (cc := cX8_missing) (maxL := 1) (ret := (some .int)) (by decide) rfl ?_
  intro p e s m args below meth c s₁ B hml hte hv
  obtain ⟨rfl, hsz, hP, hD0, hE⟩ := hv
  have hx := B.exec
  have hb := B.bytes
  have hr := B.returns
  have hlocks := B.notSynchronized
  have hts := hE.1.ts ([.ref h0] : List Value).toArray
  have hnt := hE.1.nt ([.ref h0] : List Value).toArray
  have hK := hE.2.1
  have hown : s.vm.findClass RX8 = some m.cls := findClass_of_methodNamed B.named
  subst hsz
  have hD := hD0.self (sz := s.heap.size)
  generalize hAe : va_A [(h0, .inr (0, [.ref h1, .ref h2, .ref h3, .ref h4, .ref h5, .ref h6, .ref h7])), (h3, .inr (3, [.ref h1, .ref c1, .int 0]))] s.heap.size = A at hD hE ⊢
  have hA : ∀ q : Nat, s.heap.size ≤ q → A q := fun q h => by rw [← hAe]; exact Or.inr h
  have hl := lv_entry ([.ref h0]) (n := 1) (Nat.le_of_ble_eq_true rfl)
  rw [lg_entry_eq]
  generalize (lg_sl ([.ref h0]) ++ List.replicate (1 - (lg_sl ([.ref h0])).length) Slot.unset).toArray = ls at hl ⊢
  have hl : lv_has ls 1 [(0, .ref h0)] := hl
  generalize hH : s.heap = H at hP ⊢
  have hS : va_S A s.heap H [] := by rw [← hH]; exact va_S.rf
  refine lv_aload_n hx hb dX8_missing_0 rfl (lv_at hl 0 rfl) ?_
  have hF := va_free (wc := [(h0, .inr (0, [.ref h1, .ref h2, .ref h3, .ref h4, .ref h5, .ref h6, .ref h7])), (h3, .inr (3, [.ref h1, .ref c1, .int 0]))]) hD hS hA [0, 1] rfl
  refine xkx_v (px := fun E => E = "java/lang/IllegalStateException") (w1 := fun (_ : Unit) => []) (wc := [(h0, .inr (0, [.ref h1, .ref h2, .ref h3, .ref h4, .ref h5, .ref h6, .ref h7])), (h3, .inr (3, [.ref h1, .ref c1, .int 0]))]) (wr := []) (vx_runV (As := []) (rest := []) ⟨hx, hb, hml, hown, hts⟩ (c_X8_needAnyRound l hst D K h0 h1 h2 h3 h4 h5 h6 h7 c1 H.size) (cwV 0 hts xg_RX8_X8_needAnyRound_171 rfl rfl rfl (by decide +kernel) ⟨Nat.le_of_ble_eq_true rfl, Nat.le_of_ble_eq_true rfl⟩) ⟨xPre.blind, va_recv hK hP (ci := 0) (q0 := 0) rfl rfl, xPre.call hE hS (hP.sub [0, 1] rfl) (hD.sub [0, 1] (by decide) rfl) hF⟩ rfl rfl hl.1 rfl (lv_room (Nat.le_of_ble_eq_true rfl)) dX8_missing_1 ⟨Nat.le_of_ble_eq_true rfl, Nat.le_of_ble_eq_true rfl⟩) hP hD hS hF [0, 1] [] rfl rfl rfl (by decide) (fun E9 ce9 q9 H locs hpx_4 hP hD hS hce hcv hcl => ?_) (fun u_1 H locs hw_3 hP hD hS => ?_)
  · obtain rfl := hpx_4
    exact vx_out (fun x hx9 => (hte x hx9).elim) hlocks hce hcv hcl (fun t ht hW => ⟨(), trivial, rfl, hS.F ht⟩) hS.2.2 (Nat.le_of_ble_eq_true rfl) (Nat.le_of_ble_eq_true rfl)
  · exact hw_3.elim
set_option maxHeartbeats 4000000 in
set_option maxRecDepth 100000 in
theorem c_X8_nextRoom (l : Launch) (hst : l.stackTraces = false) (D : va_G) (K : Nat → ClassId) (h0 h1 h2 h3 h4 h5 h6 h7 c1 : Nat) (sz : Nat) : vx_Met l yX8_nextRoom [.code yX8_nextRoom cX8_nextRoom 2 (some .int)] ({ frames := 7, cells := 1, slots := 6, locals := 102 }) (xPre D K [.ref h0] [(h0, .inr (0, [.ref h1, .ref h2, .ref h3, .ref h4, .ref h5, .ref h6, .ref h7])), (h3, .inr (3, [.ref h1, .ref c1, .int 0]))] sz) (va_Qi (fun (r : Int32) (u : Unit) => False) (fun u t => xW D (va_A [(h0, .inr (0, [.ref h1, .ref h2, .ref h3, .ref h4, .ref h5, .ref h6, .ref h7])), (h3, .inr (3, [.ref h1, .ref c1, .int 0]))] sz) ((fun (_ : Unit) => []) u) t) (va_A [(h0, .inr (0, [.ref h1, .ref h2, .ref h3, .ref h4, .ref h5, .ref h6, .ref h7])), (h3, .inr (3, [.ref h1, .ref c1, .int 0]))] sz)) (vx_X (S := Unit) (fun _ => True) (fun E _ _ => (fun E => E = "java/lang/IllegalStateException") E) (va_A [(h0, .inr (0, [.ref h1, .ref h2, .ref h3, .ref h4, .ref h5, .ref h6, .ref h7])), (h3, .inr (3, [.ref h1, .ref c1, .int 0]))] sz)) 1 6 (va_A [(h0, .inr (0, [.ref h1, .ref h2, .ref h3, .ref h4, .ref h5, .ref h6, .ref h7])), (h3, .inr (3, [.ref h1, .ref c1, .int 0]))] sz) := by
  refine vx_ofW (cc := cX8_nextRoom) (maxL := 2) (ret := (some .int)) (by decide) rfl ?_
  intro p e s m args below meth c s₁ B hml hte hv
  obtain ⟨rfl, hsz, hP, hD0, hE⟩ := hv
  have hx := B.exec
  have hb := B.bytes
  have hr := B.returns
  have hlocks := B.notSynchronized
  have hts := hE.1.ts ([.ref h0] : List Value).toArray
  have hnt := hE.1.nt ([.ref h0] : List Value).toArray
  have hK := hE.2.1
  have hown : s.vm.findClass RX8 = some m.cls := findClass_of_methodNamed B.named
  subst hsz
  have hD := hD0.self (sz := s.heap.size)
  generalize hAe : va_A [(h0, .inr (0, [.ref h1, .ref h2, .ref h3, .ref h4, .ref h5, .ref h6, .ref h7])), (h3, .inr (3, [.ref h1, .ref c1, .int 0]))] s.heap.size = A at hD hE ⊢
  have hA : ∀ q : Nat, s.heap.size ≤ q → A q := fun q h => by rw [← hAe]; exact Or.inr h
  have hl := lv_entry ([.ref h0]) (n := 2) (Nat.le_of_ble_eq_true rfl)
  rw [lg_entry_eq]
  generalize (lg_sl ([.ref h0]) ++ List.replicate (2 - (lg_sl ([.ref h0])).length) Slot.unset).toArray = ls at hl ⊢
  have hl : lv_has ls 2 [(0, .ref h0)] := hl
  generalize hH : s.heap = H at hP ⊢
  have hS : va_S A s.heap H [] := by rw [← hH]; exact va_S.rf
  refine lv_aload_n hx hb dX8_nextRoom_0 rfl (lv_at hl 0 rfl) ?_
  have hF := va_free (wc := [(h0, .inr (0, [.ref h1, .ref h2, .ref h3, .ref h4, .ref h5, .ref h6, .ref h7])), (h3, .inr (3, [.ref h1, .ref c1, .int 0]))]) hD hS hA [0, 1] rfl
  refine xkx_v (px := fun E => E = "java/lang/IllegalStateException") (w1 := fun (_ : Unit) => []) (wc := [(h0, .inr (0, [.ref h1, .ref h2, .ref h3, .ref h4, .ref h5, .ref h6, .ref h7])), (h3, .inr (3, [.ref h1, .ref c1, .int 0]))]) (wr := []) (vx_runV (As := []) (rest := []) ⟨hx, hb, hml, hown, hts⟩ (c_X8_needAnyRound l hst D K h0 h1 h2 h3 h4 h5 h6 h7 c1 H.size) (cwV 0 hts xg_RX8_X8_needAnyRound_171 rfl rfl rfl (by decide +kernel) ⟨Nat.le_of_ble_eq_true rfl, Nat.le_of_ble_eq_true rfl⟩) ⟨xPre.blind, va_recv hK hP (ci := 0) (q0 := 0) rfl rfl, xPre.call hE hS (hP.sub [0, 1] rfl) (hD.sub [0, 1] (by decide) rfl) hF⟩ rfl rfl hl.1 rfl (lv_room (Nat.le_of_ble_eq_true rfl)) dX8_nextRoom_1 ⟨Nat.le_of_ble_eq_true rfl, Nat.le_of_ble_eq_true rfl⟩) hP hD hS hF [0, 1] [] rfl rfl rfl (by decide) (fun E9 ce9 q9 H locs hpx_4 hP hD hS hce hcv hcl => ?_) (fun u_1 H locs hw_3 hP hD hS => ?_)
  · obtain rfl := hpx_4
    exact vx_out (fun x hx9 => (hte x hx9).elim) hlocks hce hcv hcl (fun t ht hW => ⟨(), trivial, rfl, hS.F ht⟩) hS.2.2 (Nat.le_of_ble_eq_true rfl) (Nat.le_of_ble_eq_true rfl)
  · exact hw_3.elim
