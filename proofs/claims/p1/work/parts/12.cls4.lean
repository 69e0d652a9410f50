set_option maxHeartbeats 4000000 in
set_option maxRecDepth 100000 in
theorem c_X8_speeches (l : Launch) (hst : l.stackTraces = false) (D : va_G) (K : Nat → ClassId) (h0 h1 h2 h3 h4 h5 h6 h7 a1 a2 a3 a4 a5 a6 : Nat) (sz : Nat) (p0 p1 : Int32) : vx_Met l yX8_speeches [.code yX8_speeches cX8_speeches 3 (some .int)] ({ frames := 7, cells := 1, slots := 6, locals := 103 }) (xPre D K [.ref h0, .int p0, .int p1] [(h0, .inr (0, [.ref h1, .ref h2, .ref h3, .ref h4, .ref h5, .ref h6, .ref h7])), (h1, .inr (1, [.ref a1, .ref a2, .ref a3, .ref a4, .ref a5, .ref a6, .int 0, .int 0]))] sz) (va_Qi (fun (r : Int32) (u : Unit) => False) (fun u t => xW D (va_A [(h0, .inr (0, [.ref h1, .ref h2, .ref h3, .ref h4, .ref h5, .ref h6, .ref h7])), (h1, .inr (1, [.ref a1, .ref a2, .ref a3, .ref a4, .ref a5, .ref a6, .int 0, .int 0]))] sz) ((fun (_ : Unit) => []) u) t) (va_A [(h0, .inr (0, [.ref h1, .ref h2, .ref h3, .ref h4, .ref h5, .ref h6, .ref h7])), (h1, .inr (1, [.ref a1, .ref a2, .ref a3, .ref a4, .ref a5, .ref a6, .int 0, .int 0]))] sz)) (vx_X (S := Unit) (fun _ => True) (fun E _ _ => (fun E => E = "java/util/NoSuchElementException") E) (va_A [(h0, .inr (0, [.ref h1, .ref h2, .ref h3, .ref h4, .ref h5, .ref h6, .ref h7])), (h1, .inr (1, [.ref a1, .ref a2, .ref a3, .ref a4, .ref a5, .ref a6, .int 0, .int 0]))] sz)) 1 6 (va_A [(h0, .inr (0, [.ref h1, .ref h2, .ref h3, .ref h4, .ref h5, .ref h6, .ref h7])), (h1, .inr (1, [.ref a1, .ref a2, .ref a3, .ref a4, .ref a5, .ref a6, .int 0, .int 0]))] sz) := by
  refine vx_ofW (cc := cX8_speeches) (maxL := 3) (ret := (some .int)) (by decide) rfl ?_
  intro p e s m args below meth c s₁ B hml hte hv
  obtain ⟨rfl, hsz, hP, hD0, hE⟩ := hv
  have hx := B.exec
  have hb := B.bytes
  have hr := B.returns
  have hlocks := B.notSynchronized
  have hts := hE.1.ts ([.ref h0, .int p0, .int p1] : List Value).toArray
  have hnt := hE.1.nt ([.ref h0, .int p0, .int p1] : List Value).toArray
  have hK := hE.2.1
  have hown : s.vm.findClass RX8 = some m.cls := findClass_of_methodNamed B.named
  subst hsz
  have hD := hD0.self (sz := s.heap.size)
  generalize hAe : va_A [(h0, .inr (0, [.ref h1, .ref h2, .ref h3, .ref h4, .ref h5, .ref h6, .ref h7])), (h1, .inr (1, [.ref a1, .ref a2, .ref a3, .ref a4, .ref a5, .ref a6, .int 0, .int 0]))] s.heap.size = A at hD hE ⊢
  have hA : ∀ q : Nat, s.heap.size ≤ q → A q := fun q h => by rw [← hAe]; exact Or.inr h
  have hl := lv_entry ([.ref h0, .int p0, .int p1]) (n := 3) (Nat.le_of_ble_eq_true rfl)
  rw [lg_entry_eq]
  generalize (lg_sl ([.ref h0, .int p0, .int p1]) ++ List.replicate (3 - (lg_sl ([.ref h0, .int p0, .int p1])).length) Slot.unset).toArray = ls at hl ⊢
  have hl : lv_has ls 3 [(0, .ref h0), (1, .int p0), (2, .int p1)] := hl
  generalize hH : s.heap = H at hP ⊢
  have hS : va_S A s.heap H [] := by rw [← hH]; exact va_S.rf
  refine lv_aload_n hx hb dX8_speeches_0 rfl (lv_at hl 0 rfl) ?_
  refine lv_iload_n hx hb dX8_speeches_1 rfl (lv_at hl 1 rfl) ?_
  have hF := va_free (wc := [(h0, .inr (0, [.ref h1, .ref h2, .ref h3, .ref h4, .ref h5, .ref h6, .ref h7])), (h1, .inr (1, [.ref a1, .ref a2, .ref a3, .ref a4, .ref a5, .ref a6, .int 0, .int 0]))]) hD hS hA [0, 1] rfl
  refine xkx_v (px := fun E => E = "java/util/NoSuchElementException") (w1 := fun (_ : Unit) => []) (wc := [(h0, .inr (0, [.ref h1, .ref h2, .ref h3, .ref h4, .ref h5, .ref h6, .ref h7])), (h1, .inr (1, [.ref a1, .ref a2, .ref a3, .ref a4, .ref a5, .ref a6, .int 0, .int 0]))]) (wr := []) (vx_runV (As := [.int p0]) (rest := []) ⟨hx, hb, hml, hown, hts⟩ (c_X8_needTeam l hst D K h0 h1 h2 h3 h4 h5 h6 h7 a1 a2 a3 a4 a5 a6 H.size p0) (cwV 1 hts xg_RX8_X8_needTeam_103 rfl rfl rfl (by decide +kernel) ⟨Nat.le_of_ble_eq_true rfl, Nat.le_of_ble_eq_true rfl⟩) ⟨xPre.blind, va_recv hK hP (ci := 0) (q0 := 0) rfl rfl, xPre.call hE hS (hP.sub [0, 1] rfl) (hD.sub [0, 1] (by decide) rfl) hF⟩ rfl rfl hl.1 rfl (lv_room (Nat.le_of_ble_eq_true rfl)) dX8_speeches_2 ⟨Nat.le_of_ble_eq_true rfl, Nat.le_of_ble_eq_true rfl⟩) hP hD hS hF [0, 1] [] rfl rfl rfl (by decide) (fun E9 ce9 q9 H locs hpx_4 hP hD hS hce hcv hcl => ?_) (fun u_1 H locs hw_3 hP hD hS => ?_)
  · obtain rfl := hpx_4
    exact vx_out (fun x hx9 => (hte x hx9).elim) hlocks hce hcv hcl (fun t ht hW => ⟨(), trivial, rfl, hS.F ht⟩) hS.2.2 (Nat.le_of_ble_eq_true rfl) (Nat.le_of_ble_eq_true rfl)
  · exact hw_3.elim
set_option maxHeartbeats 4000000 in
set_option maxRecDepth 100000 in
theorem c_X8_checkedMean (l : Launch) (hst : l.stackTraces = false) (D : va_G) (K : Nat → ClassId) (h0 h1 h2 h3 h4 h5 h6 h7 a1 a2 a3 a4 a5 a6 : Nat) (sz : Nat) (p0 p1 : Int32) : vx_Met l yX8_checkedMean [.code yX8_checkedMean cX8_checkedMean 4 (some .float)] ({ frames := 7, cells := 1, slots := 6, locals := 103 }) (xPre D K [.ref h0, .int p0, .int p1] [(h0, .inr (0, [.ref h1, .ref h2, .ref h3, .ref h4, .ref h5, .ref h6, .ref h7])), (h1, .inr (1, [.ref a1, .ref a2, .ref a3, .ref a4, .ref a5, .ref a6, .int 0, .int 0]))] sz) (va_Qf (fun (r : UInt32) (u : Unit) => False) (fun u t => xW D (va_A [(h0, .inr (0, [.ref h1, .ref h2, .ref h3, .ref h4, .ref h5, .ref h6, .ref h7])), (h1, .inr (1, [.ref a1, .ref a2, .ref a3, .ref a4, .ref a5, .ref a6, .int 0, .int 0]))] sz) ((fun (_ : Unit) => []) u) t) (va_A [(h0, .inr (0, [.ref h1, .ref h2, .ref h3, .ref h4, .ref h5, .ref h6, .ref h7])), (h1, .inr (1, [.ref a1, .ref a2, .ref a3, .ref a4, .ref a5, .ref a6, .int 0, .int 0]))] sz)) (vx_X (S := Unit) (fun _ => True) (fun E _ _ => (fun E => E = "java/util/NoSuchElementException") E) (va_A [(h0, .inr (0, [.ref h1, .ref h2, .ref h3, .ref h4, .ref h5, .ref h6, .ref h7])), (h1, .inr (1, [.ref a1, .ref a2, .ref a3, .ref a4, .ref a5, .ref a6, .int 0, .int 0]))] sz)) 1 6 (va_A [(h0, .inr (0, [.ref h1, .ref h2, .ref h3, .ref h4, .ref h5, .ref h6, .ref h7])), (h1, .inr (1, [.ref a1, .ref a2, .ref a3, .ref a4, .ref a5, .ref a6, .int 0, .int 0]))] sz) := by
  refine vx_ofW (cc := cX8_checkedMean) (maxL := 4) (ret := (some .float)) (by decide) rfl ?_
  intro p e s m args below meth c s₁ B hml hte hv
  obtain ⟨rfl, hsz, hP, hD0, hE⟩ := hv
  have hx := B.exec
  have hb := B.bytes
  have hr := B.returns
  have hlocks := B.notSynchronized
  have hts := hE.1.ts ([.ref h0, .int p0, .int p1] : List Value).toArray
  have hnt := hE.1.nt ([.ref h0, .int p0, .int p1] : List Value).toArray
  have hK := hE.2.1
  have hown : s.vm.findClass RX8 = some m.cls := findClass_of_methodNamed B.named
  subst hsz
  have hD := hD0.self (sz := s.heap.size)
  generalize hAe : va_A [(h0, .inr (0, [.ref h1, .ref h2, .ref h3, .ref h4, .ref h5, .ref h6, .ref h7])), (h1, .inr (1, [.ref a1, .ref a2, .ref a3, .ref a4, .ref a5, .ref a6, .int 0, .int 0]))] s.heap.size = A at hD hE ⊢
  have hA : ∀ q : Nat, s.heap.size ≤ q → A q := fun q h => by rw [← hAe]; exact Or.inr h
  have hl := lv_entry ([.ref h0, .int p0, .int p1]) (n := 4) (Nat.le_of_ble_eq_true rfl)
  rw [lg_entry_eq]
  generalize (lg_sl ([.ref h0, .int p0, .int p1]) ++ List.replicate (4 - (lg_sl ([.ref h0, .int p0, .int p1])).length) Slot.unset).toArray = ls at hl ⊢
  have hl : lv_has ls 4 [(0, .ref h0), (1, .int p0), (2, .int p1)] := hl
  generalize hH : s.heap = H at hP ⊢
  have hS : va_S A s.heap H [] := by rw [← hH]; exact va_S.rf
  refine lv_aload_n hx hb dX8_checkedMean_0 rfl (lv_at hl 0 rfl) ?_
  refine lv_iload_n hx hb dX8_checkedMean_1 rfl (lv_at hl 1 rfl) ?_
  have hF := va_free (wc := [(h0, .inr (0, [.ref h1, .ref h2, .ref h3, .ref h4, .ref h5, .ref h6, .ref h7])), (h1, .inr (1, [.ref a1, .ref a2, .ref a3, .ref a4, .ref a5, .ref a6, .int 0, .int 0]))]) hD hS hA [0, 1] rfl
  refine xkx_v (px := fun E => E = "java/util/NoSuchElementException") (w1 := fun (_ : Unit) => []) (wc := [(h0, .inr (0, [.ref h1, .ref h2, .ref h3, .ref h4, .ref h5, .ref h6, .ref h7])), (h1, .inr (1, [.ref a1, .ref a2, .ref a3, .ref a4, .ref a5, .ref a6, .int 0, .int 0]))]) (wr := []) (vx_runV (As := [.int p0]) (rest := []) ⟨hx, hb, hml, hown, hts⟩ (c_X8_needTeam l hst D K h0 h1 h2 h3 h4 h5 h6 h7 a1 a2 a3 a4 a5 a6 H.size p0) (cwV 1 hts xg_RX8_X8_needTeam_103 rfl rfl rfl (by decide +kernel) ⟨Nat.le_of_ble_eq_true rfl, Nat.le_of_ble_eq_true rfl⟩) ⟨xPre.blind, va_recv hK hP (ci := 0) (q0 := 0) rfl rfl, xPre.call hE hS (hP.sub [0, 1] rfl) (hD.sub [0, 1] (by decide) rfl) hF⟩ rfl rfl hl.1 rfl (lv_room (Nat.le_of_ble_eq_true rfl)) dX8_checkedMean_2 ⟨Nat.le_of_ble_eq_true rfl, Nat.le_of_ble_eq_true rfl⟩) hP hD hS hF [0, 1] [] rfl rfl rfl (by decide) (fun E9 ce9 q9 H locs hpx_4 hP hD hS hce hcv hcl => ?_) (fun u_1 H locs hw_3 hP hD hS => ?_)
  · obtain rfl := hpx_4
    exact vx_out (fun x hx9 => (hte x hx9).elim) hlocks hce hcv hcl (fun t ht hW => ⟨(), trivial, rfl, hS.F ht⟩) hS.2.2 (Nat.le_of_ble_eq_true rfl) (Nat.le_of_ble_eq_true rfl)
  · exact hw_3.elim
set_option maxHeartbeats 4000000 in
set_option maxRecDepth 100000 in
theorem c_X8_average (l : Launch) (hst : l.stackTraces = false) (D : va_G) (K : Nat → ClassId) (h0 h1 h2 h3 h4 h5 h6 h7 a1 a2 a3 a4 a5 a6 : Nat) (sz : Nat) (p0 p1 : Int32) : vx_Met l yX8_average [.code yX8_average cX8_average 3 (some .float)] ({ frames := 8, cells := 1, slots := 6, locals := 126 }) (xPre D K [.ref h0, .int p0, .int p1] [(h0, .inr (0, [.ref h1, .ref h2, .ref h3, .ref h4, .ref h5, .ref h6, .ref h7])), (h1, .inr (1, [.ref a1, .ref a2, .ref a3, .ref a4, .ref a5, .ref a6, .int 0, .int 0]))] sz) (va_Qf (fun (r : UInt32) (u : Unit) => False) (fun u t => xW D (va_A [(h0, .inr (0, [.ref h1, .ref h2, .ref h3, .ref h4, .ref h5, .ref h6, .ref h7])), (h1, .inr (1, [.ref a1, .ref a2, .ref a3, .ref a4, .ref a5, .ref a6, .int 0, .int 0]))] sz) ((fun (_ : Unit) => []) u) t) (va_A [(h0, .inr (0, [.ref h1, .ref h2, .ref h3, .ref h4, .ref h5, .ref h6, .ref h7])), (h1, .inr (1, [.ref a1, .ref a2, .ref a3, .ref a4, .ref a5, .ref a6, .int 0, .int 0]))] sz)) (vx_X (S := Unit) (fun _ => True) (fun E _ _ => (fun E => E = "java/util/NoSuchElementException") E) (va_A [(h0, .inr (0, [.ref h1, .ref h2, .ref h3, .ref h4, .ref h5, .ref h6, .ref h7])), (h1, .inr (1, [.ref a1, .ref a2, .ref a3, .ref a4, .ref a5, .ref a6, .int 0, .int 0]))] sz)) 1 6 (va_A [(h0, .inr (0, [.ref h1, .ref h2, .ref h3, .ref h4, .ref h5, .ref h6, .ref h7])), (h1, .inr (1, [.ref a1, .ref a2, .ref a3, .ref a4, .ref a5, .ref a6, .int 0, .int 0]))] sz) := by
  refine vx_ofW (cc := cX8_average) (maxL := 3) (ret := (some .float)) (by decide) rfl ?_
  intro p e s m args below meth c s₁ B hml hte hv
  obtain ⟨rfl, hsz, hP, hD0, hE⟩ := hv
  have hx := B.exec
  have hb := B.bytes
  have hr := B.returns
  have hlocks := B.notSynchronized
  have hts := hE.1.ts ([.ref h0, .int p0, .int p1] : List Value).toArray
  have hnt := hE.1.nt ([.ref h0, .int p0, .int p1] : List Value).toArray
  have hK := hE.2.1
  have hown : s.vm.findClass RX8 = some m.cls := findClass_of_methodNamed B.named
  subst hsz
  have hD := hD0.self (sz := s.heap.size)
  generalize hAe : va_A [(h0, .inr (0, [.ref h1, .ref h2, .ref h3, .ref h4, .ref h5, .ref h6, .ref h7])), (h1, .inr (1, [.ref a1, .ref a2, .ref a3, .ref a4, .ref a5, .ref a6, .int 0, .int 0]))] s.heap.size = A at hD hE ⊢
  have hA : ∀ q : Nat, s.heap.size ≤ q → A q := fun q h => by rw [← hAe]; exact Or.inr h
  have hl := lv_entry ([.ref h0, .int p0, .int p1]) (n := 3) (Nat.le_of_ble_eq_true rfl)
  rw [lg_entry_eq]
  generalize (lg_sl ([.ref h0, .int p0, .int p1]) ++ List.replicate (3 - (lg_sl ([.ref h0, .int p0, .int p1])).length) Slot.unset).toArray = ls at hl ⊢
  have hl : lv_has ls 3 [(0, .ref h0), (1, .int p0), (2, .int p1)] := hl
  generalize hH : s.heap = H at hP ⊢
  have hS : va_S A s.heap H [] := by rw [← hH]; exact va_S.rf
  refine lv_aload_n hx hb dX8_average_0 rfl (lv_at hl 0 rfl) ?_
  refine lv_iload_n hx hb dX8_average_1 rfl (lv_at hl 1 rfl) ?_
  refine lv_iload_n hx hb dX8_average_2 rfl (lv_at hl 2 rfl) ?_
  have hF := va_free (wc := [(h0, .inr (0, [.ref h1, .ref h2, .ref h3, .ref h4, .ref h5, .ref h6, .ref h7])), (h1, .inr (1, [.ref a1, .ref a2, .ref a3, .ref a4, .ref a5, .ref a6, .int 0, .int 0]))]) hD hS hA [0, 1] rfl
  refine xkx_f (px := fun E => E = "java/util/NoSuchElementException") (w1 := fun (_ : Unit) => []) (wc := [(h0, .inr (0, [.ref h1, .ref h2, .ref h3, .ref h4, .ref h5, .ref h6, .ref h7])), (h1, .inr (1, [.ref a1, .ref a2, .ref a3, .ref a4, .ref a5, .ref a6, .int 0, .int 0]))]) (wr := []) (vx_runV (As := [.int p0, .int p1]) (rest := []) ⟨hx, hb, hml, hown, hts⟩ (c_X8_checkedMean l hst D K h0 h1 h2 h3 h4 h5 h6 h7 a1 a2 a3 a4 a5 a6 H.size p0 p1) (cwV 2 hts xg_RX8_X8_checkedMean_327 rfl rfl rfl (by decide +kernel) ⟨Nat.le_of_ble_eq_true rfl, Nat.le_of_ble_eq_true rfl⟩) ⟨xPre.blind, va_recv hK hP (ci := 0) (q0 := 0) rfl rfl, xPre.call hE hS (hP.sub [0, 1] rfl) (hD.sub [0, 1] (by decide) rfl) hF⟩ rfl rfl hl.1 rfl (lv_room (Nat.le_of_ble_eq_true rfl)) dX8_average_3 ⟨Nat.le_of_ble_eq_true rfl, Nat.le_of_ble_eq_true rfl⟩) hP hD hS hF [0, 1] [] rfl rfl rfl (by decide) (fun E9 ce9 q9 H locs hpx_4 hP hD hS hce hcv hcl => ?_) (fun r_2 u_1 H locs hw_3 hP hD hS => ?_)
  · obtain rfl := hpx_4
    exact vx_out (fun x hx9 => (hte x hx9).elim) hlocks hce hcv hcl (fun t ht hW => ⟨(), trivial, rfl, hS.F ht⟩) hS.2.2 (Nat.le_of_ble_eq_true rfl) (Nat.le_of_ble_eq_true rfl)
  · exact hw_3.elim
set_option maxHeartbeats 4000000 in
set_option maxRecDepth 100000 in
theorem c_X8_averageBits (l : Launch) (hst : l.stackTraces = false) (D : va_G) (K : Nat → ClassId) (h0 h1 h2 h3 h4 h5 h6 h7 a1 a2 a3 a4 a5 a6 : Nat) (sz : Nat) (p0 p1 : Int32) : vx_Met l yX8_averageBits [.code yX8_averageBits cX8_averageBits 3 (some .int)] ({ frames := 8, cells := 1, slots := 6, locals := 126 }) (xPre D K [.ref h0, .int p0, .int p1] [(h0, .inr (0, [.ref h1, .ref h2, .ref h3, .ref h4, .ref h5, .ref h6, .ref h7])), (h1, .inr (1, [.ref a1, .ref a2, .ref a3, .ref a4, .ref a5, .ref a6, .int 0, .int 0]))] sz) (va_Qi (fun (r : Int32) (u : Unit) => False) (fun u t => xW D (va_A [(h0, .inr (0, [.ref h1, .ref h2, .ref h3, .ref h4, .ref h5, .ref h6, .ref h7])), (h1, .inr (1, [.ref a1, .ref a2, .ref a3, .ref a4, .ref a5, .ref a6, .int 0, .int 0]))] sz) ((fun (_ : Unit) => []) u) t) (va_A [(h0, .inr (0, [.ref h1, .ref h2, .ref h3, .ref h4, .ref h5, .ref h6, .ref h7])), (h1, .inr (1, [.ref a1, .ref a2, .ref a3, .ref a4, .ref a5, .ref a6, .int 0, .int 0]))] sz)) (vx_X (S := Unit) (fun _ => True) (fun E _ _ => (fun E => E = "java/util/NoSuchElementException") E) (va_A [(h0, .inr (0, [.ref h1, .ref h2, .ref h3, .ref h4, .ref h5, .ref h6, .ref h7])), (h1, .inr (1, [.ref a1, .ref a2, .ref a3, .ref a4, .ref a5, .ref a6, .int 0, .int 0]))] sz)) 1 6 (va_A [(h0, .inr (0, [.ref h1, .ref h2, .ref h3, .ref h4, .ref h5, .ref h6, .ref h7])), (h1, .inr (1, [.ref a1, .ref a2, .ref a3, .ref a4, .ref a5, .ref a6, .int 0, .int 0]))] sz) := by
  refine vx_ofW (cc := cX8_averageBits) (maxL := 3) (ret := (some .int)) (by decide) rfl ?_
  intro p e s m args below meth c s₁ B hml hte hv
  obtain ⟨rfl, hsz, hP, hD0, hE⟩ := hv
  have hx := B.exec
  have hb := B.bytes
  have hr := B.returns
  have hlocks := B.notSynchronized
  have hts := hE.1.ts ([.ref h0, .int p0, .int p1] : List Value).toArray
  have hnt := hE.1.nt ([.ref h0, .int p0, .int p1] : List Value).toArray
  have hK := hE.2.1
  have hown : s.vm.findClass RX8 = some m.cls := findClass_of_methodNamed B.named
  subst hsz
  have hD := hD0.self (sz := s.heap.size)
  generalize hAe : va_A [(h0, .inr (0, [.ref h1, .ref h2, .ref h3, .ref h4, .ref h5, .ref h6, .ref h7])), (h1, .inr (1, [.ref a1, .ref a2, .ref a3, .ref a4, .ref a5, .ref a6, .int 0, .int 0]))] s.heap.size = A at hD hE ⊢
  have hA : ∀ q : Nat, s.heap.size ≤ q → A q := fun q h => by rw [← hAe]; exact Or.inr h
  have hl := lv_entry ([.ref h0, .int p0, .int p1]) (n := 3) (Nat.le_of_ble_eq_true rfl)
  rw [lg_entry_eq]
  generalize (lg_sl ([.ref h0, .int p0, .int p1]) ++ List.replicate (3 - (lg_sl ([.ref h0, .int p0, .int p1])).length) Slot.unset).toArray = ls at hl ⊢
  have hl : lv_has ls 3 [(0, .ref h0), (1, .int p0), (2, .int p1)] := hl
  generalize hH : s.heap = H at hP ⊢
  have hS : va_S A s.heap H [] := by rw [← hH]; exact va_S.rf
  refine lv_aload_n hx hb dX8_averageBits_0 rfl (lv_at hl 0 rfl) ?_
  refine lv_iload_n hx hb dX8_averageBits_1 rfl (lv_at hl 1 rfl) ?_
  refine lv_iload_n hx hb dX8_averageBits_2 rfl (lv_at hl 2 rfl) ?_
  have hF := va_free (wc := [(h0, .inr (0, [.ref h1, .ref h2, .ref h3, .ref h4, .ref h5, .ref h6, .ref h7])), (h1, .inr (1, [.ref a1, .ref a2, .ref a3, .ref a4, .ref a5, .ref a6, .int 0, .int 0]))]) hD hS hA [0, 1] rfl
  refine xkx_f (px := fun E => E = "java/util/NoSuchElementException") (w1 := fun (_ : Unit) => []) (wc := [(h0, .inr (0, [.ref h1, .ref h2, .ref h3, .ref h4, .ref h5, .ref h6, .ref h7])), (h1, .inr (1, [.ref a1, .ref a2, .ref a3, .ref a4, .ref a5, .ref a6, .int 0, .int 0]))]) (wr := []) (vx_runV (As := [.int p0, .int p1]) (rest := []) ⟨hx, hb, hml, hown, hts⟩ (c_X8_checkedMean l hst D K h0 h1 h2 h3 h4 h5 h6 h7 a1 a2 a3 a4 a5 a6 H.size p0 p1) (cwV 2 hts xg_RX8_X8_checkedMean_327 rfl rfl rfl (by decide +kernel) ⟨Nat.le_of_ble_eq_true rfl, Nat.le_of_ble_eq_true rfl⟩) ⟨xPre.blind, va_recv hK hP (ci := 0) (q0 := 0) rfl rfl, xPre.call hE hS (hP.sub [0, 1] rfl) (hD.sub [0, 1] (by decide) rfl) hF⟩ rfl rfl hl.1 rfl (lv_room (Nat.le_of_ble_eq_true rfl)) dX8_averageBits_3 ⟨Nat.le_of_ble_eq_true rfl, Nat.le_of_ble_eq_true rfl⟩) hP hD hS hF [0, 1] [] rfl rfl rfl (by decide) (fun E9 ce9 q9 H locs hpx_4 hP hD hS hce hcv hcl => ?_) (fun r_2 u_1 H locs hw_3 hP hD hS => ?_)
  · obtain rfl := hpx_4
    exact vx_out (fun x hx9 => (hte x hx9).elim) hlocks hce hcv hcl (fun t ht hW => ⟨(), trivial, rfl, hS.F ht⟩) hS.2.2 (Nat.le_of_ble_eq_true rfl) (Nat.le_of_ble_eq_true rfl)
  · exact hw_3.elim
set_option maxHeartbeats 4000000 in
set_option maxRecDepth 100000 in
theorem c_X8_averageTenths (l : Launch) (hst : l.stackTraces = false) (D : va_G) (K : Nat → ClassId) (h0 h1 h2 h3 h4 h5 h6 h7 a1 a2 a3 a4 a5 a6 : Nat) (sz : Nat) (p0 p1 : Int32) : vx_Met l yX8_averageTenths [.code yX8_averageTenths cX8_averageTenths 3 (some .int)] ({ frames := 8, cells := 1, slots := 6, locals := 126 }) (xPre D K [.ref h0, .int p0, .int p1] [(h0, .inr (0, [.ref h1, .ref h2, .ref h3, .ref h4, .ref h5, .ref h6, .ref h7])), (h1, .inr (1, [.ref a1, .ref a2, .ref a3, .ref a4, .ref a5, .ref a6, .int 0, .int 0]))] sz) (va_Qi (fun (r : Int32) (u : Unit) => False) (fun u t => xW D (va_A [(h0, .inr (0, [.ref h1, .ref h2, .ref h3, .ref h4, .ref h5, .ref h6, .ref h7])), (h1, .inr (1, [.ref a1, .ref a2, .ref a3, .ref a4, .ref a5, .ref a6, .int 0, .int 0]))] sz) ((fun (_ : Unit) => []) u) t) (va_A [(h0, .inr (0, [.ref h1, .ref h2, .ref h3, .ref h4, .ref h5, .ref h6, .ref h7])), (h1, .inr (1, [.ref a1, .ref a2, .ref a3, .ref a4, .ref a5, .ref a6, .int 0, .int 0]))] sz)) (vx_X (S := Unit) (fun _ => True) (fun E _ _ => (fun E => E = "java/util/NoSuchElementException") E) (va_A [(h0, .inr (0, [.ref h1, .ref h2, .ref h3, .ref h4, .ref h5, .ref h6, .ref h7])), (h1, .inr (1, [.ref a1, .ref a2, .ref a3, .ref a4, .ref a5, .ref a6, .int 0, .int 0]))] sz)) 1 6 (va_A [(h0, .inr (0, [.ref h1, .ref h2, .ref h3, .ref h4, .ref h5, .ref h6, .ref h7])), (h1, .inr (1, [.ref a1, .ref a2, .ref a3, .ref a4, .ref a5, .ref a6, .int 0, .int 0]))] sz) := by
  refine vx_ofW (cc := cX8_averageTenths) (maxL := 3) (ret := (some .int)) (by decide) rfl ?_
  intro p e s m args below meth c s₁ B hml hte hv
  obtain ⟨rfl, hsz, hP, hD0, hE⟩ := hv
  have hx := B.exec
  have hb := B.bytes
  have hr := B.returns
  have hlocks := B.notSynchronized
  have hts := hE.1.ts ([.ref h0, .int p0, .int p1] : List Value).toArray
  have hnt := hE.1.nt ([.ref h0, .int p0, .int p1] : List Value).toArray
  have hK := hE.2.1
  have hown : s.vm.findClass RX8 = some m.cls := findClass_of_methodNamed B.named
  subst hsz
  have hD := hD0.self (sz := s.heap.size)
  generalize hAe : va_A [(h0, .inr (0, [.ref h1, .ref h2, .ref h3, .ref h4, .ref h5, .ref h6, .ref h7])), (h1, .inr (1, [.ref a1, .ref a2, .ref a3, .ref a4, .ref a5, .ref a6, .int 0, .int 0]))] s.heap.size = A at hD hE ⊢
  have hA : ∀ q : Nat, s.heap.size ≤ q → A q := fun q h => by rw [← hAe]; exact Or.inr h
  have hl := lv_entry ([.ref h0, .int p0, .int p1]) (n := 3) (Nat.le_of_ble_eq_true rfl)
  rw [lg_entry_eq]
  generalize (lg_sl ([.ref h0, .int p0, .int p1]) ++ List.replicate (3 - (lg_sl ([.ref h0, .int p0, .int p1])).length) Slot.unset).toArray = ls at hl ⊢
  have hl : lv_has ls 3 [(0, .ref h0), (1, .int p0), (2, .int p1)] := hl
  generalize hH : s.heap = H at hP ⊢
  have hS : va_S A s.heap H [] := by rw [← hH]; exact va_S.rf
  refine lv_aload_n hx hb dX8_averageTenths_0 rfl (lv_at hl 0 rfl) ?_
  refine lv_iload_n hx hb dX8_averageTenths_1 rfl (lv_at hl 1 rfl) ?_
  refine lv_iload_n hx hb dX8_averageTenths_2 rfl (lv_at hl 2 rfl) ?_
  have hF := va_free (wc := [(h0, .inr (0, [.ref h1, .ref h2, .ref h3, .ref h4, .ref h5, .ref h6, .ref h7])), (h1, .inr (1, [.ref a1, .ref a2, .ref a3, .ref a4, .ref a5, .ref a6, .int 0, .int 0]))]) hD hS hA [0, 1] rfl
  refine xkx_f (px := fun E => E = "java/util/NoSuchElementException") (w1 := fun (_ : Unit) => []) (wc := [(h0, .inr (0, [.ref h1, .ref h2, .ref h3, .ref h4, .ref h5, .ref h6, .ref h7])), (h1, .inr (1, [.ref a1, .ref a2, .ref a3, .ref a4, .ref a5, .ref a6, .int 0, .int 0]))]) (wr := []) (vx_runV (As := [.int p0, .int p1]) (rest := []) ⟨hx, hb, hml, hown, hts⟩ (c_X8_checkedMean l hst D K h0 h1 h2 h3 h4 h5 h6 h7 a1 a2 a3 a4 a5 a6 H.size p0 p1) (cwV 2 hts xg_RX8_X8_checkedMean_327 rfl rfl rfl (by decide +kernel) ⟨Nat.le_of_ble_eq_true rfl, Nat.le_of_ble_eq_true rfl⟩) ⟨xPre.blind, va_recv hK hP (ci := 0) (q0 := 0) rfl rfl, xPre.call hE hS (hP.sub [0, 1] rfl) (hD.sub [0, 1] (by decide) rfl) hF⟩ rfl rfl hl.1 rfl (lv_room (Nat.le_of_ble_eq_true rfl)) dX8_averageTenths_3 ⟨Nat.le_of_ble_eq_true rfl, Nat.le_of_ble_eq_true rfl⟩) hP hD hS hF [0, 1] [] rfl rfl rfl (by decide) (fun E9 ce9 q9 H locs hpx_4 hP hD hS hce hcv hcl => ?_) (fun r_2 u_1 H locs hw_3 hP hD hS => ?_)
  · obtain rfl := hpx_4
    exact vx_out (fun x hx9 => (hte x hx9).elim) hlocks hce hcv hcl (fun t ht hW => ⟨(), trivial, rfl, hS.F ht⟩) hS.2.2 (Nat.le_of_ble_eq_true rfl) (Nat.le_of_ble_eq_true rfl)
  · exact hw_3.elim
set_option maxHeartbeats 4000000 in
set_option maxRecDepth 100000 in
theorem c_X7_speakerAt (l : Launch) (D : va_G) (K : Nat → ClassId) (h2 b1 b2 b3 b4 : Nat) (sz : Nat) (p0 : Int32) : Met l yX7_speakerAt [.code yX7_speakerAt cX7_speakerAt 3 (some .int)] ({ frames := 0, cells := 0, slots := 0, locals := 0 }) (xPre D K [.ref h2, .int p0] [(h2, .inr (2, [.ref b1, .ref b2, .ref b3, .ref b4, .long 0])), (b3, .inl (K 0, 24, .inl (fun _ => 0)))] sz) (va_Qi (fun (r : Int32) (u : Unit) => r = (-1)) (fun u t => xW D (va_A [(h2, .inr (2, [.ref b1, .ref b2, .ref b3, .ref b4, .long 0])), (b3, .inl (K 0, 24, .inl (fun _ => 0)))] sz) ((fun (_ : Unit) => []) u) t) (va_A [(h2, .inr (2, [.ref b1, .ref b2, .ref b3, .ref b4, .long 0])), (b3, .inl (K 0, 24, .inl (fun _ => 0)))] sz)) 0 0 (va_A [(h2, .inr (2, [.ref b1, .ref b2, .ref b3, .ref b4, .long 0])), (b3, .inl (K 0, 24, .inl (fun _ => 0)))] sz) := by
  refine Met.ofW (cc := cX7_speakerAt) (maxL := 3) (ret := (some .int)) (by decide) rfl ?_
  intro p e s m args below meth c s₁ B hml hv
  obtain ⟨rfl, hsz, hP, hD0, hE⟩ := hv
  have hx := B.exec
  have hb := B.bytes
  have hr := B.returns
  have hlocks := B.notSynchronized
  have hts := hE.1.ts ([.ref h2, .int p0] : List Value).toArray
  have hnt := hE.1.nt ([.ref h2, .int p0] : List Value).toArray
  have hK := hE.2.1
  have hown : s.vm.findClass RX7 = some m.cls := findClass_of_methodNamed B.named
  subst hsz
  have hD := hD0.self (sz := s.heap.size)
  generalize hAe : va_A [(h2, .inr (2, [.ref b1, .ref b2, .ref b3, .ref b4, .long 0])), (b3, .inl (K 0, 24, .inl (fun _ => 0)))] s.heap.size = A at hD hE ⊢
  have hA : ∀ q : Nat, s.heap.size ≤ q → A q := fun q h => by rw [← hAe]; exact Or.inr h
  have hl := lv_entry ([.ref h2, .int p0]) (n := 3) (Nat.le_of_ble_eq_true rfl)
  rw [lg_entry_eq]
  generalize (lg_sl ([.ref h2, .int p0]) ++ List.replicate (3 - (lg_sl ([.ref h2, .int p0])).length) Slot.unset).toArray = ls at hl ⊢
  have hl : lv_has ls 3 [(0, .ref h2), (1, .int p0)] := hl
  generalize hH : s.heap = H at hP ⊢
  have hS : va_S A s.heap H [] := by rw [← hH]; exact va_S.rf
  refine lv_iconst (v := 0) hx hb dX7_speakerAt_0 (by decide) ?_
  refine lv_istore_n (lv' := [(2, .int 0), (0, .ref h2), (1, .int p0)]) hx hb dX7_speakerAt_1 rfl hl (by decide) rfl (fun ls hl => ?_)
  refine lv_iload_n hx hb dX7_speakerAt_2 rfl (lv_at hl 0 rfl) ?_
  refine lv_aload_n hx hb dX7_speakerAt_3 rfl (lv_at hl 1 rfl) ?_
  refine va_get (D := D) (ci := 2) (v := .ref b3) (C := RX7) (T := TX7) (N := 5) hx hb hts inlX7 hown hK hP 0 rfl rfl 2 (by decide) (hts _ xw3_10) (fun _ h9 => h9) rfl dX7_speakerAt_4 ?_
  refine va_alen (v := 24) hx hb hK hP 1 0 rfl rfl (by decide) dX7_speakerAt_7 ?_
  refine lv_icmp_ge (tgt := 37) hx hb dX7_speakerAt_8 (by decide) (fun c_1 => absurd c_1 (by decide)) (fun _ => ?_)
  refine lv_aload_n hx hb dX7_speakerAt_11 rfl (lv_at hl 1 rfl) ?_
  refine va_get (D := D) (ci := 2) (v := .ref b3) (C := RX7) (T := TX7) (N := 5) hx hb hts inlX7 hown hK hP 0 rfl rfl 2 (by decide) (hts _ xw3_10) (fun _ h9 => h9) rfl dX7_speakerAt_12 ?_
  refine lv_iload_n hx hb dX7_speakerAt_15 rfl (lv_at hl 0 rfl) ?_
  refine va_iald hx hb hK hP 1 0 rfl rfl (by unfold vp_in; decide) dX7_speakerAt_16 ?_
  refine lv_topi (fun v_2 e_3 => ?_)
  obtain rfl : v_2 = 0 := e_3
  refine lv_if_le (tgt := 31) hx hb dX7_speakerAt_17 (by decide) (fun _ => ?_) (fun c_4 => absurd (by decide) c_4)
  refine lv_iinc (v := 1) (lv' := [(2, .int 1), (0, .ref h2), (1, .int p0)]) hx hb dX7_speakerAt_31 hl (k := 0) rfl (by decide) (by decide) rfl (fun ls hl => ?_)
  refine lv_goto (tgt := 2) hx hb dX7_speakerAt_34 (by decide) ?_
  refine lv_iload_n hx hb dX7_speakerAt_2 rfl (lv_at hl 0 rfl) ?_
  refine lv_aload_n hx hb dX7_speakerAt_3 rfl (lv_at hl 1 rfl) ?_
  refine va_get (D := D) (ci := 2) (v := .ref b3) (C := RX7) (T := TX7) (N := 5) hx hb hts inlX7 hown hK hP 0 rfl rfl 2 (by decide) (hts _ xw3_10) (fun _ h9 => h9) rfl dX7_speakerAt_4 ?_
  refine va_alen (v := 24) hx hb hK hP 1 0 rfl rfl (by decide) dX7_speakerAt_7 ?_
  refine lv_icmp_ge (tgt := 37) hx hb dX7_speakerAt_8 (by decide) (fun c_5 => absurd c_5 (by decide)) (fun _ => ?_)
  refine lv_aload_n hx hb dX7_speakerAt_11 rfl (lv_at hl 1 rfl) ?_
  refine va_get (D := D) (ci := 2) (v := .ref b3) (C := RX7) (T := TX7) (N := 5) hx hb hts inlX7 hown hK hP 0 rfl rfl 2 (by decide) (hts _ xw3_10) (fun _ h9 => h9) rfl dX7_speakerAt_12 ?_
  refine lv_iload_n hx hb dX7_speakerAt_15 rfl (lv_at hl 0 rfl) ?_
  refine va_iald hx hb hK hP 1 0 rfl rfl (by unfold vp_in; decide) dX7_speakerAt_16 ?_
  refine lv_topi (fun v_6 e_7 => ?_)
  obtain rfl : v_6 = 0 := e_7
  refine lv_if_le (tgt := 31) hx hb dX7_speakerAt_17 (by decide) (fun _ => ?_) (fun c_8 => absurd (by decide) c_8)
  refine lv_iinc (v := 2) (lv' := [(2, .int 2), (0, .ref h2), (1, .int p0)]) hx hb dX7_speakerAt_31 hl (k := 0) rfl (by decide) (by decide) rfl (fun ls hl => ?_)
  refine lv_goto (tgt := 2) hx hb dX7_speakerAt_34 (by decide) ?_
  refine lv_iload_n hx hb dX7_speakerAt_2 rfl (lv_at hl 0 rfl) ?_
  refine lv_aload_n hx hb dX7_speakerAt_3 rfl (lv_at hl 1 rfl) ?_
  refine va_get (D := D) (ci := 2) (v := .ref b3) (C := RX7) (T := TX7) (N := 5) hx hb hts inlX7 hown hK hP 0 rfl rfl 2 (by decide) (hts _ xw3_10) (fun _ h9 => h9) rfl dX7_speakerAt_4 ?_
  refine va_alen (v := 24) hx hb hK hP 1 0 rfl rfl (by decide) dX7_speakerAt_7 ?_
  refine lv_icmp_ge (tgt := 37) hx hb dX7_speakerAt_8 (by decide) (fun c_9 => absurd c_9 (by decide)) (fun _ => ?_)
  refine lv_aload_n hx hb dX7_speakerAt_11 rfl (lv_at hl 1 rfl) ?_
  refine va_get (D := D) (ci := 2) (v := .ref b3) (C := RX7) (T := TX7) (N := 5) hx hb hts inlX7 hown hK hP 0 rfl rfl 2 (by decide) (hts _ xw3_10) (fun _ h9 => h9) rfl dX7_speakerAt_12 ?_
  refine lv_iload_n hx hb dX7_speakerAt_15 rfl (lv_at hl 0 rfl) ?_
  refine va_iald hx hb hK hP 1 0 rfl rfl (by unfold vp_in; decide) dX7_speakerAt_16 ?_
  refine lv_topi (fun v_10 e_11 => ?_)
  obtain rfl : v_10 = 0 := e_11
  refine lv_if_le (tgt := 31) hx hb dX7_speakerAt_17 (by decide) (fun _ => ?_) (fun c_12 => absurd (by decide) c_12)
  refine lv_iinc (v := 3) (lv' := [(2, .int 3), (0, .ref h2), (1, .int p0)]) hx hb dX7_speakerAt_31 hl (k := 0) rfl (by decide) (by decide) rfl (fun ls hl => ?_)
  refine lv_goto (tgt := 2) hx hb dX7_speakerAt_34 (by decide) ?_
  refine lv_iload_n hx hb dX7_speakerAt_2 rfl (lv_at hl 0 rfl) ?_
  refine lv_aload_n hx hb dX7_speakerAt_3 rfl (lv_at hl 1 rfl) ?_
  refine va_get (D := D) (ci := 2) (v := .ref b3) (C := RX7) (T := TX7) (N := 5) hx hb hts inlX7 hown hK hP 0 rfl rfl 2 (by decide) (hts _ xw3_10) (fun _ h9 => h9) rfl dX7_speakerAt_4 ?_
  refine va_alen (v := 24) hx hb hK hP 1 0 rfl rfl (by decide) dX7_speakerAt_7 ?_
  refine lv_icmp_ge (tgt := 37) hx hb dX7_speakerAt_8 (by decide) (fun c_13 => absurd c_13 (by decide)) (fun _ => ?_)
  refine lv_aload_n hx hb dX7_speakerAt_11 rfl (lv_at hl 1 rfl) ?_
  refine va_get (D := D) (ci := 2) (v := .ref b3) (C := RX7) (T := TX7) (N := 5) hx hb hts inlX7 hown hK hP 0 rfl rfl 2 (by decide) (hts _ xw3_10) (fun _ h9 => h9) rfl dX7_speakerAt_12 ?_
  refine lv_iload_n hx hb dX7_speakerAt_15 rfl (lv_at hl 0 rfl) ?_
  refine va_iald hx hb hK hP 1 0 rfl rfl (by unfold vp_in; decide) dX7_speakerAt_16 ?_
  refine lv_topi (fun v_14 e_15 => ?_)
  obtain rfl : v_14 = 0 := e_15
  refine lv_if_le (tgt := 31) hx hb dX7_speakerAt_17 (by decide) (fun _ => ?_) (fun c_16 => absurd (by decide) c_16)
  refine lv_iinc (v := 4) (lv' := [(2, .int 4), (0, .ref h2), (1, .int p0)]) hx hb dX7_speakerAt_31 hl (k := 0) rfl (by decide) (by decide) rfl (fun ls hl => ?_)
  refine lv_goto (tgt := 2) hx hb dX7_speakerAt_34 (by decide) ?_
  refine lv_iload_n hx hb dX7_speakerAt_2 rfl (lv_at hl 0 rfl) ?_
  refine lv_aload_n hx hb dX7_speakerAt_3 rfl (lv_at hl 1 rfl) ?_
  refine va_get (D := D) (ci := 2) (v := .ref b3) (C := RX7) (T := TX7) (N := 5) hx hb hts inlX7 hown hK hP 0 rfl rfl 2 (by decide) (hts _ xw3_10) (fun _ h9 => h9) rfl dX7_speakerAt_4 ?_
  refine va_alen (v := 24) hx hb hK hP 1 0 rfl rfl (by decide) dX7_speakerAt_7 ?_
  refine lv_icmp_ge (tgt := 37) hx hb dX7_speakerAt_8 (by decide) (fun c_17 => absurd c_17 (by decide)) (fun _ => ?_)
  refine lv_aload_n hx hb dX7_speakerAt_11 rfl (lv_at hl 1 rfl) ?_
  refine va_get (D := D) (ci := 2) (v := .ref b3) (C := RX7) (T := TX7) (N := 5) hx hb hts inlX7 hown hK hP 0 rfl rfl 2 (by decide) (hts _ xw3_10) (fun _ h9 => h9) rfl dX7_speakerAt_12 ?_
  refine lv_iload_n hx hb dX7_speakerAt_15 rfl (lv_at hl 0 rfl) ?_
  refine va_iald hx hb hK hP 1 0 rfl rfl (by unfold vp_in; decide) dX7_speakerAt_16 ?_
  refine lv_topi (fun v_18 e_19 => ?_)
  obtain rfl : v_18 = 0 := e_19
  refine lv_if_le (tgt := 31) hx hb dX7_speakerAt_17 (by decide) (fun _ => ?_) (fun c_20 => absurd (by decide) c_20)
  refine lv_iinc (v := 5) (lv' := [(2, .int 5), (0, .ref h2), (1, .int p0)]) hx hb dX7_speakerAt_31 hl (k := 0) rfl (by decide) (by decide) rfl (fun ls hl => ?_)
  refine lv_goto (tgt := 2) hx hb dX7_speakerAt_34 (by decide) ?_
  refine lv_iload_n hx hb dX7_speakerAt_2 rfl (lv_at hl 0 rfl) ?_
  refine lv_aload_n hx hb dX7_speakerAt_3 rfl (lv_at hl 1 rfl) ?_
  refine va_get (D := D) (ci := 2) (v := .ref b3) (C := RX7) (T := TX7) (N := 5) hx hb hts inlX7 hown hK hP 0 rfl rfl 2 (by decide) (hts _ xw3_10) (fun _ h9 => h9) rfl dX7_speakerAt_4 ?_
  refine va_alen (v := 24) hx hb hK hP 1 0 rfl rfl (by decide) dX7_speakerAt_7 ?_
  refine lv_icmp_ge (tgt := 37) hx hb dX7_speakerAt_8 (by decide) (fun c_21 => absurd c_21 (by decide)) (fun _ => ?_)
  refine lv_aload_n hx hb dX7_speakerAt_11 rfl (lv_at hl 1 rfl) ?_
  refine va_get (D := D) (ci := 2) (v := .ref b3) (C := RX7) (T := TX7) (N := 5) hx hb hts inlX7 hown hK hP 0 rfl rfl 2 (by decide) (hts _ xw3_10) (fun _ h9 => h9) rfl dX7_speakerAt_12 ?_
  refine lv_iload_n hx hb dX7_speakerAt_15 rfl (lv_at hl 0 rfl) ?_
  refine va_iald hx hb hK hP 1 0 rfl rfl (by unfold vp_in; decide) dX7_speakerAt_16 ?_
  refine lv_topi (fun v_22 e_23 => ?_)
  obtain rfl : v_22 = 0 := e_23
  refine lv_if_le (tgt := 31) hx hb dX7_speakerAt_17 (by decide) (fun _ => ?_) (fun c_24 => absurd (by decide) c_24)
  refine lv_iinc (v := 6) (lv' := [(2, .int 6), (0, .ref h2), (1, .int p0)]) hx hb dX7_speakerAt_31 hl (k := 0) rfl (by decide) (by decide) rfl (fun ls hl => ?_)
  refine lv_goto (tgt := 2) hx hb dX7_speakerAt_34 (by decide) ?_
  refine lv_iload_n hx hb dX7_speakerAt_2 rfl (lv_at hl 0 rfl) ?_
  refine lv_aload_n hx hb dX7_speakerAt_3 rfl (lv_at hl 1 rfl) ?_
  refine va_get (D := D) (ci := 2) (v := .ref b3) (C := RX7) (T := TX7) (N := 5) hx hb hts inlX7 hown hK hP 0 rfl rfl 2 (by decide) (hts _ xw3_10) (fun _ h9 => h9) rfl dX7_speakerAt_4 ?_
  refine va_alen (v := 24) hx hb hK hP 1 0 rfl rfl (by decide) dX7_speakerAt_7 ?_
  refine lv_icmp_ge (tgt := 37) hx hb dX7_speakerAt_8 (by decide) (fun c_25 => absurd c_25 (by decide)) (fun _ => ?_)
  refine lv_aload_n hx hb dX7_speakerAt_11 rfl (lv_at hl 1 rfl) ?_
  refine va_get (D := D) (ci := 2) (v := .ref b3) (C := RX7) (T := TX7) (N := 5) hx hb hts inlX7 hown hK hP 0 rfl rfl 2 (by decide) (hts _ xw3_10) (fun _ h9 => h9) rfl dX7_speakerAt_12 ?_
  refine lv_iload_n hx hb dX7_speakerAt_15 rfl (lv_at hl 0 rfl) ?_
  refine va_iald hx hb hK hP 1 0 rfl rfl (by unfold vp_in; decide) dX7_speakerAt_16 ?_
  refine lv_topi (fun v_26 e_27 => ?_)
  obtain rfl : v_26 = 0 := e_27
  refine lv_if_le (tgt := 31) hx hb dX7_speakerAt_17 (by decide) (fun _ => ?_) (fun c_28 => absurd (by decide) c_28)
  refine lv_iinc (v := 7) (lv' := [(2, .int 7), (0, .ref h2), (1, .int p0)]) hx hb dX7_speakerAt_31 hl (k := 0) rfl (by decide) (by decide) rfl (fun ls hl => ?_)
  refine lv_goto (tgt := 2) hx hb dX7_speakerAt_34 (by decide) ?_
  refine lv_iload_n hx hb dX7_speakerAt_2 rfl (lv_at hl 0 rfl) ?_
  refine lv_aload_n hx hb dX7_speakerAt_3 rfl (lv_at hl 1 rfl) ?_
  refine va_get (D := D) (ci := 2) (v := .ref b3) (C := RX7) (T := TX7) (N := 5) hx hb hts inlX7 hown hK hP 0 rfl rfl 2 (by decide) (hts _ xw3_10) (fun _ h9 => h9) rfl dX7_speakerAt_4 ?_
  refine va_alen (v := 24) hx hb hK hP 1 0 rfl rfl (by decide) dX7_speakerAt_7 ?_
  refine lv_icmp_ge (tgt := 37) hx hb dX7_speakerAt_8 (by decide) (fun c_29 => absurd c_29 (by decide)) (fun _ => ?_)
  refine lv_aload_n hx hb dX7_speakerAt_11 rfl (lv_at hl 1 rfl) ?_
  refine va_get (D := D) (ci := 2) (v := .ref b3) (C := RX7) (T := TX7) (N := 5) hx hb hts inlX7 hown hK hP 0 rfl rfl 2 (by decide) (hts _ xw3_10) (fun _ h9 => h9) rfl dX7_speakerAt_12 ?_
  refine lv_iload_n hx hb dX7_speakerAt_15 rfl (lv_at hl 0 rfl) ?_
  refine va_iald hx hb hK hP 1 0 rfl rfl (by unfold vp_in; decide) dX7_speakerAt_16 ?_
  refine lv_topi (fun v_30 e_31 => ?_)
  obtain rfl : v_30 = 0 := e_31
  refine lv_if_le (tgt := 31) hx hb dX7_speakerAt_17 (by decide) (fun _ => ?_) (fun c_32 => absurd (by decide) c_32)
  refine lv_iinc (v := 8) (lv' := [(2, .int 8), (0, .ref h2), (1, .int p0)]) hx hb dX7_speakerAt_31 hl (k := 0) rfl (by decide) (by decide) rfl (fun ls hl => ?_)
  refine lv_goto (tgt := 2) hx hb dX7_speakerAt_34 (by decide) ?_
  refine lv_iload_n hx hb dX7_speakerAt_2 rfl (lv_at hl 0 rfl) ?_
  refine lv_aload_n hx hb dX7_speakerAt_3 rfl (lv_at hl 1 rfl) ?_
  refine va_get (D := D) (ci := 2) (v := .ref b3) (C := RX7) (T := TX7) (N := 5) hx hb hts inlX7 hown hK hP 0 rfl rfl 2 (by decide) (hts _ xw3_10) (fun _ h9 => h9) rfl dX7_speakerAt_4 ?_
  refine va_alen (v := 24) hx hb hK hP 1 0 rfl rfl (by decide) dX7_speakerAt_7 ?_
  refine lv_icmp_ge (tgt := 37) hx hb dX7_speakerAt_8 (by decide) (fun c_33 => absurd c_33 (by decide)) (fun _ => ?_)
  refine lv_aload_n hx hb dX7_speakerAt_11 rfl (lv_at hl 1 rfl) ?_
  refine va_get (D := D) (ci := 2) (v := .ref b3) (C := RX7) (T := TX7) (N := 5) hx hb hts inlX7 hown hK hP 0 rfl rfl 2 (by decide) (hts _ xw3_10) (fun _ h9 => h9) rfl dX7_speakerAt_12 ?_
  refine lv_iload_n hx hb dX7_speakerAt_15 rfl (lv_at hl 0 rfl) ?_
  refine va_iald hx hb hK hP 1 0 rfl rfl (by unfold vp_in; decide) dX7_speakerAt_16 ?_
  refine lv_topi (fun v_34 e_35 => ?_)
  obtain rfl : v_34 = 0 := e_35
  refine lv_if_le (tgt := 31) hx hb dX7_speakerAt_17 (by decide) (fun _ => ?_) (fun c_36 => absurd (by decide) c_36)
  refine lv_iinc (v := 9) (lv' := [(2, .int 9), (0, .ref h2), (1, .int p0)]) hx hb dX7_speakerAt_31 hl (k := 0) rfl (by decide) (by decide) rfl (fun ls hl => ?_)
  refine lv_goto (tgt := 2) hx hb dX7_speakerAt_34 (by decide) ?_
  refine lv_iload_n hx hb dX7_speakerAt_2 rfl (lv_at hl 0 rfl) ?_
  refine lv_aload_n hx hb dX7_speakerAt_3 rfl (lv_at hl 1 rfl) ?_
  refine va_get (D := D) (ci := 2) (v := .ref b3) (C := RX7) (T := TX7) (N := 5) hx hb hts inlX7 hown hK hP 0 rfl rfl 2 (by decide) (hts _ xw3_10) (fun _ h9 => h9) rfl dX7_speakerAt_4 ?_
  refine va_alen (v := 24) hx hb hK hP 1 0 rfl rfl (by decide) dX7_speakerAt_7 ?_
  refine lv_icmp_ge (tgt := 37) hx hb dX7_speakerAt_8 (by decide) (fun c_37 => absurd c_37 (by decide)) (fun _ => ?_)
  refine lv_aload_n hx hb dX7_speakerAt_11 rfl (lv_at hl 1 rfl) ?_
  refine va_get (D := D) (ci := 2) (v := .ref b3) (C := RX7) (T := TX7) (N := 5) hx hb hts inlX7 hown hK hP 0 rfl rfl 2 (by decide) (hts _ xw3_10) (fun _ h9 => h9) rfl dX7_speakerAt_12 ?_
  refine lv_iload_n hx hb dX7_speakerAt_15 rfl (lv_at hl 0 rfl) ?_
  refine va_iald hx hb hK hP 1 0 rfl rfl (by unfold vp_in; decide) dX7_speakerAt_16 ?_
  refine lv_topi (fun v_38 e_39 => ?_)
  obtain rfl : v_38 = 0 := e_39
  refine lv_if_le (tgt := 31) hx hb dX7_speakerAt_17 (by decide) (fun _ => ?_) (fun c_40 => absurd (by decide) c_40)
  refine lv_iinc (v := 10) (lv' := [(2, .int 10), (0, .ref h2), (1, .int p0)]) hx hb dX7_speakerAt_31 hl (k := 0) rfl (by decide) (by decide) rfl (fun ls hl => ?_)
  refine lv_goto (tgt := 2) hx hb dX7_speakerAt_34 (by decide) ?_
  refine lv_iload_n hx hb dX7_speakerAt_2 rfl (lv_at hl 0 rfl) ?_
  refine lv_aload_n hx hb dX7_speakerAt_3 rfl (lv_at hl 1 rfl) ?_
  refine va_get (D := D) (ci := 2) (v := .ref b3) (C := RX7) (T := TX7) (N := 5) hx hb hts inlX7 hown hK hP 0 rfl rfl 2 (by decide) (hts _ xw3_10) (fun _ h9 => h9) rfl dX7_speakerAt_4 ?_
  refine va_alen (v := 24) hx hb hK hP 1 0 rfl rfl (by decide) dX7_speakerAt_7 ?_
  refine lv_icmp_ge (tgt := 37) hx hb dX7_speakerAt_8 (by decide) (fun c_41 => absurd c_41 (by decide)) (fun _ => ?_)
  refine lv_aload_n hx hb dX7_speakerAt_11 rfl (lv_at hl 1 rfl) ?_
  refine va_get (D := D) (ci := 2) (v := .ref b3) (C := RX7) (T := TX7) (N := 5) hx hb hts inlX7 hown hK hP 0 rfl rfl 2 (by decide) (hts _ xw3_10) (fun _ h9 => h9) rfl dX7_speakerAt_12 ?_
  refine lv_iload_n hx hb dX7_speakerAt_15 rfl (lv_at hl 0 rfl) ?_
  refine va_iald hx hb hK hP 1 0 rfl rfl (by unfold vp_in; decide) dX7_speakerAt_16 ?_
  refine lv_topi (fun v_42 e_43 => ?_)
  obtain rfl : v_42 = 0 := e_43
  refine lv_if_le (tgt := 31) hx hb dX7_speakerAt_17 (by decide) (fun _ => ?_) (fun c_44 => absurd (by decide) c_44)
  refine lv_iinc (v := 11) (lv' := [(2, .int 11), (0, .ref h2), (1, .int p0)]) hx hb dX7_speakerAt_31 hl (k := 0) rfl (by decide) (by decide) rfl (fun ls hl => ?_)
  refine lv_goto (tgt := 2) hx hb dX7_speakerAt_34 (by decide) ?_
  refine lv_iload_n hx hb dX7_speakerAt_2 rfl (lv_at hl 0 rfl) ?_
  refine lv_aload_n hx hb dX7_speakerAt_3 rfl (lv_at hl 1 rfl) ?_
  refine va_get (D := D) (ci := 2) (v := .ref b3) (C := RX7) (T := TX7) (N := 5) hx hb hts inlX7 hown hK hP 0 rfl rfl 2 (by decide) (hts _ xw3_10) (fun _ h9 => h9) rfl dX7_speakerAt_4 ?_
  refine va_alen (v := 24) hx hb hK hP 1 0 rfl rfl (by decide) dX7_speakerAt_7 ?_
  refine lv_icmp_ge (tgt := 37) hx hb dX7_speakerAt_8 (by decide) (fun c_45 => absurd c_45 (by decide)) (fun _ => ?_)
  refine lv_aload_n hx hb dX7_speakerAt_11 rfl (lv_at hl 1 rfl) ?_
  refine va_get (D := D) (ci := 2) (v := .ref b3) (C := RX7) (T := TX7) (N := 5) hx hb hts inlX7 hown hK hP 0 rfl rfl 2 (by decide) (hts _ xw3_10) (fun _ h9 => h9) rfl dX7_speakerAt_12 ?_
  refine lv_iload_n hx hb dX7_speakerAt_15 rfl (lv_at hl 0 rfl) ?_
  refine va_iald hx hb hK hP 1 0 rfl rfl (by unfold vp_in; decide) dX7_speakerAt_16 ?_
  refine lv_topi (fun v_46 e_47 => ?_)
  obtain rfl : v_46 = 0 := e_47
  refine lv_if_le (tgt := 31) hx hb dX7_speakerAt_17 (by decide) (fun _ => ?_) (fun c_48 => absurd (by decide) c_48)
  refine lv_iinc (v := 12) (lv' := [(2, .int 12), (0, .ref h2), (1, .int p0)]) hx hb dX7_speakerAt_31 hl (k := 0) rfl (by decide) (by decide) rfl (fun ls hl => ?_)
  refine lv_goto (tgt := 2) hx hb dX7_speakerAt_34 (by decide) ?_
  refine lv_iload_n hx hb dX7_speakerAt_2 rfl (lv_at hl 0 rfl) ?_
  refine lv_aload_n hx hb dX7_speakerAt_3 rfl (lv_at hl 1 rfl) ?_
  refine va_get (D := D) (ci := 2) (v := .ref b3) (C := RX7) (T := TX7) (N := 5) hx hb hts inlX7 hown hK hP 0 rfl rfl 2 (by decide) (hts _ xw3_10) (fun _ h9 => h9) rfl dX7_speakerAt_4 ?_
  refine va_alen (v := 24) hx hb hK hP 1 0 rfl rfl (by decide) dX7_speakerAt_7 ?_
  refine lv_icmp_ge (tgt := 37) hx hb dX7_speakerAt_8 (by decide) (fun c_49 => absurd c_49 (by decide)) (fun _ => ?_)
  refine lv_aload_n hx hb dX7_speakerAt_11 rfl (lv_at hl 1 rfl) ?_
  refine va_get (D := D) (ci := 2) (v := .ref b3) (C := RX7) (T := TX7) (N := 5) hx hb hts inlX7 hown hK hP 0 rfl rfl 2 (by decide) (hts _ xw3_10) (fun _ h9 => h9) rfl dX7_speakerAt_12 ?_
  refine lv_iload_n hx hb dX7_speakerAt_15 rfl (lv_at hl 0 rfl) ?_
  refine va_iald hx hb hK hP 1 0 rfl rfl (by unfold vp_in; decide) dX7_speakerAt_16 ?_
  refine lv_topi (fun v_50 e_51 => ?_)
  obtain rfl : v_50 = 0 := e_51
  refine lv_if_le (tgt := 31) hx hb dX7_speakerAt_17 (by decide) (fun _ => ?_) (fun c_52 => absurd (by decide) c_52)
  refine lv_iinc (v := 13) (lv' := [(2, .int 13), (0, .ref h2), (1, .int p0)]) hx hb dX7_speakerAt_31 hl (k := 0) rfl (by decide) (by decide) rfl (fun ls hl => ?_)
  refine lv_goto (tgt := 2) hx hb dX7_speakerAt_34 (by decide) ?_
  refine lv_iload_n hx hb dX7_speakerAt_2 rfl (lv_at hl 0 rfl) ?_
  refine lv_aload_n hx hb dX7_speakerAt_3 rfl (lv_at hl 1 rfl) ?_
  refine va_get (D := D) (ci := 2) (v := .ref b3) (C := RX7) (T := TX7) (N := 5) hx hb hts inlX7 hown hK hP 0 rfl rfl 2 (by decide) (hts _ xw3_10) (fun _ h9 => h9) rfl dX7_speakerAt_4 ?_
  refine va_alen (v := 24) hx hb hK hP 1 0 rfl rfl (by decide) dX7_speakerAt_7 ?_
  refine lv_icmp_ge (tgt := 37) hx hb dX7_speakerAt_8 (by decide) (fun c_53 => absurd c_53 (by decide)) (fun _ => ?_)
  refine lv_aload_n hx hb dX7_speakerAt_11 rfl (lv_at hl 1 rfl) ?_
  refine va_get (D := D) (ci := 2) (v := .ref b3) (C := RX7) (T := TX7) (N := 5) hx hb hts inlX7 hown hK hP 0 rfl rfl 2 (by decide) (hts _ xw3_10) (fun _ h9 => h9) rfl dX7_speakerAt_12 ?_
  refine lv_iload_n hx hb dX7_speakerAt_15 rfl (lv_at hl 0 rfl) ?_
  refine va_iald hx hb hK hP 1 0 rfl rfl (by unfold vp_in; decide) dX7_speakerAt_16 ?_
  refine lv_topi (fun v_54 e_55 => ?_)
  obtain rfl : v_54 = 0 := e_55
  refine lv_if_le (tgt := 31) hx hb dX7_speakerAt_17 (by decide) (fun _ => ?_) (fun c_56 => absurd (by decide) c_56)
  refine lv_iinc (v := 14) (lv' := [(2, .int 14), (0, .ref h2), (1, .int p0)]) hx hb dX7_speakerAt_31 hl (k := 0) rfl (by decide) (by decide) rfl (fun ls hl => ?_)
  refine lv_goto (tgt := 2) hx hb dX7_speakerAt_34 (by decide) ?_
  refine lv_iload_n hx hb dX7_speakerAt_2 rfl (lv_at hl 0 rfl) ?_
  refine lv_aload_n hx hb dX7_speakerAt_3 rfl (lv_at hl 1 rfl) ?_
  refine va_get (D := D) (ci := 2) (v := .ref b3) (C := RX7) (T := TX7) (N := 5) hx hb hts inlX7 hown hK hP 0 rfl rfl 2 (by decide) (hts _ xw3_10) (fun _ h9 => h9) rfl dX7_speakerAt_4 ?_
  refine va_alen (v := 24) hx hb hK hP 1 0 rfl rfl (by decide) dX7_speakerAt_7 ?_
  refine lv_icmp_ge (tgt := 37) hx hb dX7_speakerAt_8 (by decide) (fun c_57 => absurd c_57 (by decide)) (fun _ => ?_)
  refine lv_aload_n hx hb dX7_speakerAt_11 rfl (lv_at hl 1 rfl) ?_
  refine va_get (D := D) (ci := 2) (v := .ref b3) (C := RX7) (T := TX7) (N := 5) hx hb hts inlX7 hown hK hP 0 rfl rfl 2 (by decide) (hts _ xw3_10) (fun _ h9 => h9) rfl dX7_speakerAt_12 ?_
  refine lv_iload_n hx hb dX7_speakerAt_15 rfl (lv_at hl 0 rfl) ?_
  refine va_iald hx hb hK hP 1 0 rfl rfl (by unfold vp_in; decide) dX7_speakerAt_16 ?_
  refine lv_topi (fun v_58 e_59 => ?_)
  obtain rfl : v_58 = 0 := e_59
  refine lv_if_le (tgt := 31) hx hb dX7_speakerAt_17 (by decide) (fun _ => ?_) (fun c_60 => absurd (by decide) c_60)
  refine lv_iinc (v := 15) (lv' := [(2, .int 15), (0, .ref h2), (1, .int p0)]) hx hb dX7_speakerAt_31 hl (k := 0) rfl (by decide) (by decide) rfl (fun ls hl => ?_)
  refine lv_goto (tgt := 2) hx hb dX7_speakerAt_34 (by decide) ?_
  refine lv_iload_n hx hb dX7_speakerAt_2 rfl (lv_at hl 0 rfl) ?_
  refine lv_aload_n hx hb dX7_speakerAt_3 rfl (lv_at hl 1 rfl) ?_
  refine va_get (D := D) (ci := 2) (v := .ref b3) (C := RX7) (T := TX7) (N := 5) hx hb hts inlX7 hown hK hP 0 rfl rfl 2 (by decide) (hts _ xw3_10) (fun _ h9 => h9) rfl dX7_speakerAt_4 ?_
  refine va_alen (v := 24) hx hb hK hP 1 0 rfl rfl (by decide) dX7_speakerAt_7 ?_
  refine lv_icmp_ge (tgt := 37) hx hb dX7_speakerAt_8 (by decide) (fun c_61 => absurd c_61 (by decide)) (fun _ => ?_)
  refine lv_aload_n hx hb dX7_speakerAt_11 rfl (lv_at hl 1 rfl) ?_
  refine va_get (D := D) (ci := 2) (v := .ref b3) (C := RX7) (T := TX7) (N := 5) hx hb hts inlX7 hown hK hP 0 rfl rfl 2 (by decide) (hts _ xw3_10) (fun _ h9 => h9) rfl dX7_speakerAt_12 ?_
  refine lv_iload_n hx hb dX7_speakerAt_15 rfl (lv_at hl 0 rfl) ?_
  refine va_iald hx hb hK hP 1 0 rfl rfl (by unfold vp_in; decide) dX7_speakerAt_16 ?_
  refine lv_topi (fun v_62 e_63 => ?_)
  obtain rfl : v_62 = 0 := e_63
  refine lv_if_le (tgt := 31) hx hb dX7_speakerAt_17 (by decide) (fun _ => ?_) (fun c_64 => absurd (by decide) c_64)
  refine lv_iinc (v := 16) (lv' := [(2, .int 16), (0, .ref h2), (1, .int p0)]) hx hb dX7_speakerAt_31 hl (k := 0) rfl (by decide) (by decide) rfl (fun ls hl => ?_)
  refine lv_goto (tgt := 2) hx hb dX7_speakerAt_34 (by decide) ?_
  refine lv_iload_n hx hb dX7_speakerAt_2 rfl (lv_at hl 0 rfl) ?_
  refine lv_aload_n hx hb dX7_speakerAt_3 rfl (lv_at hl 1 rfl) ?_
  refine va_get (D := D) (ci := 2) (v := .ref b3) (C := RX7) (T := TX7) (N := 5) hx hb hts inlX7 hown hK hP 0 rfl rfl 2 (by decide) (hts _ xw3_10) (fun _ h9 => h9) rfl dX7_speakerAt_4 ?_
  refine va_alen (v := 24) hx hb hK hP 1 0 rfl rfl (by decide) dX7_speakerAt_7 ?_
  refine lv_icmp_ge (tgt := 37) hx hb dX7_speakerAt_8 (by decide) (fun c_65 => absurd c_65 (by decide)) (fun _ => ?_)
  refine lv_aload_n hx hb dX7_speakerAt_11 rfl (lv_at hl 1 rfl) ?_
  refine va_get (D := D) (ci := 2) (v := .ref b3) (C := RX7) (T := TX7) (N := 5) hx hb hts inlX7 hown hK hP 0 rfl rfl 2 (by decide) (hts _ xw3_10) (fun _ h9 => h9) rfl dX7_speakerAt_12 ?_
  refine lv_iload_n hx hb dX7_speakerAt_15 rfl (lv_at hl 0 rfl) ?_
  refine va_iald hx hb hK hP 1 0 rfl rfl (by unfold vp_in; decide) dX7_speakerAt_16 ?_
  refine lv_topi (fun v_66 e_67 => ?_)
  obtain rfl : v_66 = 0 := e_67
  refine lv_if_le (tgt := 31) hx hb dX7_speakerAt_17 (by decide) (fun _ => ?_) (fun c_68 => absurd (by decide) c_68)
  refine lv_iinc (v := 17) (lv' := [(2, .int 17), (0, .ref h2), (1, .int p0)]) hx hb dX7_speakerAt_31 hl (k := 0) rfl (by decide) (by decide) rfl (fun ls hl => ?_)
  refine lv_goto (tgt := 2) hx hb dX7_speakerAt_34 (by decide) ?_
  refine lv_iload_n hx hb dX7_speakerAt_2 rfl (lv_at hl 0 rfl) ?_
  refine lv_aload_n hx hb dX7_speakerAt_3 rfl (lv_at hl 1 rfl) ?_
  refine va_get (D := D) (ci := 2) (v := .ref b3) (C := RX7) (T := TX7) (N := 5) hx hb hts inlX7 hown hK hP 0 rfl rfl 2 (by decide) (hts _ xw3_10) (fun _ h9 => h9) rfl dX7_speakerAt_4 ?_
  refine va_alen (v := 24) hx hb hK hP 1 0 rfl rfl (by decide) dX7_speakerAt_7 ?_
  refine lv_icmp_ge (tgt := 37) hx hb dX7_speakerAt_8 (by decide) (fun c_69 => absurd c_69 (by decide)) (fun _ => ?_)
  refine lv_aload_n hx hb dX7_speakerAt_11 rfl (lv_at hl 1 rfl) ?_
  refine va_get (D := D) (ci := 2) (v := .ref b3) (C := RX7) (T := TX7) (N := 5) hx hb hts inlX7 hown hK hP 0 rfl rfl 2 (by decide) (hts _ xw3_10) (fun _ h9 => h9) rfl dX7_speakerAt_12 ?_
  refine lv_iload_n hx hb dX7_speakerAt_15 rfl (lv_at hl 0 rfl) ?_
  refine va_iald hx hb hK hP 1 0 rfl rfl (by unfold vp_in; decide) dX7_speakerAt_16 ?_
  refine lv_topi (fun v_70 e_71 => ?_)
  obtain rfl : v_70 = 0 := e_71
  refine lv_if_le (tgt := 31) hx hb dX7_speakerAt_17 (by decide) (fun _ => ?_) (fun c_72 => absurd (by decide) c_72)
  refine lv_iinc (v := 18) (lv' := [(2, .int 18), (0, .ref h2), (1, .int p0)]) hx hb dX7_speakerAt_31 hl (k := 0) rfl (by decide) (by decide) rfl (fun ls hl => ?_)
  refine lv_goto (tgt := 2) hx hb dX7_speakerAt_34 (by decide) ?_
  refine lv_iload_n hx hb dX7_speakerAt_2 rfl (lv_at hl 0 rfl) ?_
  refine lv_aload_n hx hb dX7_speakerAt_3 rfl (lv_at hl 1 rfl) ?_
  refine va_get (D := D) (ci := 2) (v := .ref b3) (C := RX7) (T := TX7) (N := 5) hx hb hts inlX7 hown hK hP 0 rfl rfl 2 (by decide) (hts _ xw3_10) (fun _ h9 => h9) rfl dX7_speakerAt_4 ?_
  refine va_alen (v := 24) hx hb hK hP 1 0 rfl rfl (by decide) dX7_speakerAt_7 ?_
  refine lv_icmp_ge (tgt := 37) hx hb dX7_speakerAt_8 (by decide) (fun c_73 => absurd c_73 (by decide)) (fun _ => ?_)
  refine lv_aload_n hx hb dX7_speakerAt_11 rfl (lv_at hl 1 rfl) ?_
  refine va_get (D := D) (ci := 2) (v := .ref b3) (C := RX7) (T := TX7) (N := 5) hx hb hts inlX7 hown hK hP 0 rfl rfl 2 (by decide) (hts _ xw3_10) (fun _ h9 => h9) rfl dX7_speakerAt_12 ?_
  refine lv_iload_n hx hb dX7_speakerAt_15 rfl (lv_at hl 0 rfl) ?_
  refine va_iald hx hb hK hP 1 0 rfl rfl (by unfold vp_in; decide) dX7_speakerAt_16 ?_
  refine lv_topi (fun v_74 e_75 => ?_)
  obtain rfl : v_74 = 0 := e_75
  refine lv_if_le (tgt := 31) hx hb dX7_speakerAt_17 (by decide) (fun _ => ?_) (fun c_76 => absurd (by decide) c_76)
  refine lv_iinc (v := 19) (lv' := [(2, .int 19), (0, .ref h2), (1, .int p0)]) hx hb dX7_speakerAt_31 hl (k := 0) rfl (by decide) (by decide) rfl (fun ls hl => ?_)
  refine lv_goto (tgt := 2) hx hb dX7_speakerAt_34 (by decide) ?_
  refine lv_iload_n hx hb dX7_speakerAt_2 rfl (lv_at hl 0 rfl) ?_
  refine lv_aload_n hx hb dX7_speakerAt_3 rfl (lv_at hl 1 rfl) ?_
  refine va_get (D := D) (ci := 2) (v := .ref b3) (C := RX7) (T := TX7) (N := 5) hx hb hts inlX7 hown hK hP 0 rfl rfl 2 (by decide) (hts _ xw3_10) (fun _ h9 => h9) rfl dX7_speakerAt_4 ?_
  refine va_alen (v := 24) hx hb hK hP 1 0 rfl rfl (by decide) dX7_speakerAt_7 ?_
  refine lv_icmp_ge (tgt := 37) hx hb dX7_speakerAt_8 (by decide) (fun c_77 => absurd c_77 (by decide)) (fun _ => ?_)
  refine lv_aload_n hx hb dX7_speakerAt_11 rfl (lv_at hl 1 rfl) ?_
  refine va_get (D := D) (ci := 2) (v := .ref b3) (C := RX7) (T := TX7) (N := 5) hx hb hts inlX7 hown hK hP 0 rfl rfl 2 (by decide) (hts _ xw3_10) (fun _ h9 => h9) rfl dX7_speakerAt_12 ?_
  refine lv_iload_n hx hb dX7_speakerAt_15 rfl (lv_at hl 0 rfl) ?_
  refine va_iald hx hb hK hP 1 0 rfl rfl (by unfold vp_in; decide) dX7_speakerAt_16 ?_
  refine lv_topi (fun v_78 e_79 => ?_)
  obtain rfl : v_78 = 0 := e_79
  refine lv_if_le (tgt := 31) hx hb dX7_speakerAt_17 (by decide) (fun _ => ?_) (fun c_80 => absurd (by decide) c_80)
  refine lv_iinc (v := 20) (lv' := [(2, .int 20), (0, .ref h2), (1, .int p0)]) hx hb dX7_speakerAt_31 hl (k := 0) rfl (by decide) (by decide) rfl (fun ls hl => ?_)
  refine lv_goto (tgt := 2) hx hb dX7_speakerAt_34 (by decide) ?_
  refine lv_iload_n hx hb dX7_speakerAt_2 rfl (lv_at hl 0 rfl) ?_
  refine lv_aload_n hx hb dX7_speakerAt_3 rfl (lv_at hl 1 rfl) ?_
  refine va_get (D := D) (ci := 2) (v := .ref b3) (C := RX7) (T := TX7) (N := 5) hx hb hts inlX7 hown hK hP 0 rfl rfl 2 (by decide) (hts _ xw3_10) (fun _ h9 => h9) rfl dX7_speakerAt_4 ?_
  refine va_alen (v := 24) hx hb hK hP 1 0 rfl rfl (by decide) dX7_speakerAt_7 ?_
  refine lv_icmp_ge (tgt := 37) hx hb dX7_speakerAt_8 (by decide) (fun c_81 => absurd c_81 (by decide)) (fun _ => ?_)
  refine lv_aload_n hx hb dX7_speakerAt_11 rfl (lv_at hl 1 rfl) ?_
  refine va_get (D := D) (ci := 2) (v := .ref b3) (C := RX7) (T := TX7) (N := 5) hx hb hts inlX7 hown hK hP 0 rfl rfl 2 (by decide) (hts _ xw3_10) (fun _ h9 => h9) rfl dX7_speakerAt_12 ?_
  refine lv_iload_n hx hb dX7_speakerAt_15 rfl (lv_at hl 0 rfl) ?_
  refine va_iald hx hb hK hP 1 0 rfl rfl (by unfold vp_in; decide) dX7_speakerAt_16 ?_
  refine lv_topi (fun v_82 e_83 => ?_)
  obtain rfl : v_82 = 0 := e_83
  refine lv_if_le (tgt := 31) hx hb dX7_speakerAt_17 (by decide) (fun _ => ?_) (fun c_84 => absurd (by decide) c_84)
  refine lv_iinc (v := 21) (lv' := [(2, .int 21), (0, .ref h2), (1, .int p0)]) hx hb dX7_speakerAt_31 hl (k := 0) rfl (by decide) (by decide) rfl (fun ls hl => ?_)
  refine lv_goto (tgt := 2) hx hb dX7_speakerAt_34 (by decide) ?_
  refine lv_iload_n hx hb dX7_speakerAt_2 rfl (lv_at hl 0 rfl) ?_
  refine lv_aload_n hx hb dX7_speakerAt_3 rfl (lv_at hl 1 rfl) ?_
  refine va_get (D := D) (ci := 2) (v := .ref b3) (C := RX7) (T := TX7) (N := 5) hx hb hts inlX7 hown hK hP 0 rfl rfl 2 (by decide) (hts _ xw3_10) (fun _ h9 => h9) rfl dX7_speakerAt_4 ?_
  refine va_alen (v := 24) hx hb hK hP 1 0 rfl rfl (by decide) dX7_speakerAt_7 ?_
  refine lv_icmp_ge (tgt := 37) hx hb dX7_speakerAt_8 (by decide) (fun c_85 => absurd c_85 (by decide)) (fun _ => ?_)
  refine lv_aload_n hx hb dX7_speakerAt_11 rfl (lv_at hl 1 rfl) ?_
  refine va_get (D := D) (ci := 2) (v := .ref b3) (C := RX7) (T := TX7) (N := 5) hx hb hts inlX7 hown hK hP 0 rfl rfl 2 (by decide) (hts _ xw3_10) (fun _ h9 => h9) rfl dX7_speakerAt_12 ?_
  refine lv_iload_n hx hb dX7_speakerAt_15 rfl (lv_at hl 0 rfl) ?_
  refine va_iald hx hb hK hP 1 0 rfl rfl (by unfold vp_in; decide) dX7_speakerAt_16 ?_
  refine lv_topi (fun v_86 e_87 => ?_)
  obtain rfl : v_86 = 0 := e_87
  refine lv_if_le (tgt := 31) hx hb dX7_speakerAt_17 (by decide) (fun _ => ?_) (fun c_88 => absurd (by decide) c_88)
  refine lv_iinc (v := 22) (lv' := [(2, .int 22), (0, .ref h2), (1, .int p0)]) hx hb dX7_speakerAt_31 hl (k := 0) rfl (by decide) (by decide) rfl (fun ls hl => ?_)
  refine lv_goto (tgt := 2) hx hb dX7_speakerAt_34 (by decide) ?_
  refine lv_iload_n hx hb dX7_speakerAt_2 rfl (lv_at hl 0 rfl) ?_
  refine lv_aload_n hx hb dX7_speakerAt_3 rfl (lv_at hl 1 rfl) ?_
  refine va_get (D := D) (ci := 2) (v := .ref b3) (C := RX7) (T := TX7) (N := 5) hx hb hts inlX7 hown hK hP 0 rfl rfl 2 (by decide) (hts _ xw3_10) (fun _ h9 => h9) rfl dX7_speakerAt_4 ?_
  refine va_alen (v := 24) hx hb hK hP 1 0 rfl rfl (by decide) dX7_speakerAt_7 ?_
  refine lv_icmp_ge (tgt := 37) hx hb dX7_speakerAt_8 (by decide) (fun c_89 => absurd c_89 (by decide)) (fun _ => ?_)
  refine lv_aload_n hx hb dX7_speakerAt_11 rfl (lv_at hl 1 rfl) ?_
  refine va_get (D := D) (ci := 2) (v := .ref b3) (C := RX7) (T := TX7) (N := 5) hx hb hts inlX7 hown hK hP 0 rfl rfl 2 (by decide) (hts _ xw3_10) (fun _ h9 => h9) rfl dX7_speakerAt_12 ?_
  refine lv_iload_n hx hb dX7_speakerAt_15 rfl (lv_at hl 0 rfl) ?_
  refine va_iald hx hb hK hP 1 0 rfl rfl (by unfold vp_in; decide) dX7_speakerAt_16 ?_
  refine lv_topi (fun v_90 e_91 => ?_)
  obtain rfl : v_90 = 0 := e_91
  refine lv_if_le (tgt := 31) hx hb dX7_speakerAt_17 (by decide) (fun _ => ?_) (fun c_92 => absurd (by decide) c_92)
  refine lv_iinc (v := 23) (lv' := [(2, .int 23), (0, .ref h2), (1, .int p0)]) hx hb dX7_speakerAt_31 hl (k := 0) rfl (by decide) (by decide) rfl (fun ls hl => ?_)
  refine lv_goto (tgt := 2) hx hb dX7_speakerAt_34 (by decide) ?_
  refine lv_iload_n hx hb dX7_speakerAt_2 rfl (lv_at hl 0 rfl) ?_
  refine lv_aload_n hx hb dX7_speakerAt_3 rfl (lv_at hl 1 rfl) ?_
  refine va_get (D := D) (ci := 2) (v := .ref b3) (C := RX7) (T := TX7) (N := 5) hx hb hts inlX7 hown hK hP 0 rfl rfl 2 (by decide) (hts _ xw3_10) (fun _ h9 => h9) rfl dX7_speakerAt_4 ?_
  refine va_alen (v := 24) hx hb hK hP 1 0 rfl rfl (by decide) dX7_speakerAt_7 ?_
  refine lv_icmp_ge (tgt := 37) hx hb dX7_speakerAt_8 (by decide) (fun c_93 => absurd c_93 (by decide)) (fun _ => ?_)
  refine lv_aload_n hx hb dX7_speakerAt_11 rfl (lv_at hl 1 rfl) ?_
  refine va_get (D := D) (ci := 2) (v := .ref b3) (C := RX7) (T := TX7) (N := 5) hx hb hts inlX7 hown hK hP 0 rfl rfl 2 (by decide) (hts _ xw3_10) (fun _ h9 => h9) rfl dX7_speakerAt_12 ?_
  refine lv_iload_n hx hb dX7_speakerAt_15 rfl (lv_at hl 0 rfl) ?_
  refine va_iald hx hb hK hP 1 0 rfl rfl (by unfold vp_in; decide) dX7_speakerAt_16 ?_
  refine lv_topi (fun v_94 e_95 => ?_)
  obtain rfl : v_94 = 0 := e_95
  refine lv_if_le (tgt := 31) hx hb dX7_speakerAt_17 (by decide) (fun _ => ?_) (fun c_96 => absurd (by decide) c_96)
  refine lv_iinc (v := 24) (lv' := [(2, .int 24), (0, .ref h2), (1, .int p0)]) hx hb dX7_speakerAt_31 hl (k := 0) rfl (by decide) (by decide) rfl (fun ls hl => ?_)
  refine lv_goto (tgt := 2) hx hb dX7_speakerAt_34 (by decide) ?_
  refine lv_iload_n hx hb dX7_speakerAt_2 rfl (lv_at hl 0 rfl) ?_
  refine lv_aload_n hx hb dX7_speakerAt_3 rfl (lv_at hl 1 rfl) ?_
  refine va_get (D := D) (ci := 2) (v := .ref b3) (C := RX7) (T := TX7) (N := 5) hx hb hts inlX7 hown hK hP 0 rfl rfl 2 (by decide) (hts _ xw3_10) (fun _ h9 => h9) rfl dX7_speakerAt_4 ?_
  refine va_alen (v := 24) hx hb hK hP 1 0 rfl rfl (by decide) dX7_speakerAt_7 ?_
  refine lv_icmp_ge (tgt := 37) hx hb dX7_speakerAt_8 (by decide) (fun _ => ?_) (fun c_97 => absurd (by decide) c_97)
  refine lv_iconst (v := (-1)) hx hb dX7_speakerAt_37 (by decide) ?_
  have hP9 : va_P D xCl [] H := hP.sub [] rfl
  have hD9 : va_D A [] := hD.sub [] (by decide) rfl
  refine W.widen (k := 0) (n := 0) (Nat.le_of_ble_eq_true rfl) (Nat.le_of_ble_eq_true rfl) ?_
  exact W.iret (v := (-1)) hx hb hr (fun t ht hW => ⟨⟨(-1), (), rfl, rfl, by rw [ht]; exact hP9, hD9⟩, hS.F ht⟩) hS.2.2 dX7_speakerAt_38
set_option maxHeartbeats 4000000 in
set_option maxRecDepth 100000 in
theorem c_X8_bestSpeaker (l : Launch) (hst : l.stackTraces = false) (D : va_G) (K : Nat → ClassId) (h0 h1 h2 h3 h4 h5 h6 h7 b1 b2 b3 b4 : Nat) (sz : Nat) (p0 : Int32) : vx_Met l yX8_bestSpeaker [.code yX8_bestSpeaker cX8_bestSpeaker 3 (some .int)] ({ frames := 6, cells := 1, slots := 6, locals := 82 }) (xPre D K [.ref h0, .int p0] [(h0, .inr (0, [.ref h1, .ref h2, .ref h3, .ref h4, .ref h5, .ref h6, .ref h7])), (h2, .inr (2, [.ref b1, .ref b2, .ref b3, .ref b4, .long 0])), (b3, .inl (K 0, 24, .inl (fun _ => 0)))] sz) (va_Qi (fun (r : Int32) (u : Unit) => False) (fun u t => xW D (va_A [(h0, .inr (0, [.ref h1, .ref h2, .ref h3, .ref h4, .ref h5, .ref h6, .ref h7])), (h2, .inr (2, [.ref b1, .ref b2, .ref b3, .ref b4, .long 0])), (b3, .inl (K 0, 24, .inl (fun _ => 0)))] sz) ((fun (_ : Unit) => []) u) t) (va_A [(h0, .inr (0, [.ref h1, .ref h2, .ref h3, .ref h4, .ref h5, .ref h6, .ref h7])), (h2, .inr (2, [.ref b1, .ref b2, .ref b3, .ref b4, .long 0])), (b3, .inl (K 0, 24, .inl (fun _ => 0)))] sz)) (vx_X (S := Unit) (fun _ => True) (fun E _ _ => (fun E => E = "java/lang/IndexOutOfBoundsException") E) (va_A [(h0, .inr (0, [.ref h1, .ref h2, .ref h3, .ref h4, .ref h5, .ref h6, .ref h7])), (h2, .inr (2, [.ref b1, .ref b2, .ref b3, .ref b4, .long 0])), (b3, .inl (K 0, 24, .inl (fun _ => 0)))] sz)) 1 6 (va_A [(h0, .inr (0, [.ref h1, .ref h2, .ref h3, .ref h4, .ref h5, .ref h6, .ref h7])), (h2, .inr (2, [.ref b1, .ref b2, .ref b3, .ref b4, .long 0])), (b3, .inl (K 0, 24, .inl (fun _ => 0)))] sz) := by
  refine vx_ofW (cc := cX8_bestSpeaker) (maxL := 3) (ret := (some .int)) (by decide) rfl ?_
  intro p e s m args below meth c s₁ B hml hte hv
  obtain ⟨rfl, hsz, hP, hD0, hE⟩ := hv
  have hx := B.exec
  have hb := B.bytes
  have hr := B.returns
  have hlocks := B.notSynchronized
  have hts := hE.1.ts ([.ref h0, .int p0] : List Value).toArray
  have hnt := hE.1.nt ([.ref h0, .int p0] : List Value).toArray
  have hK := hE.2.1
  have hown : s.vm.findClass RX8 = some m.cls := findClass_of_methodNamed B.named
  subst hsz
  have hD := hD0.self (sz := s.heap.size)
  generalize hAe : va_A [(h0, .inr (0, [.ref h1, .ref h2, .ref h3, .ref h4, .ref h5, .ref h6, .ref h7])), (h2, .inr (2, [.ref b1, .ref b2, .ref b3, .ref b4, .long 0])), (b3, .inl (K 0, 24, .inl (fun _ => 0)))] s.heap.size = A at hD hE ⊢
  have hA : ∀ q : Nat, s.heap.size ≤ q → A q := fun q h => by rw [← hAe]; exact Or.inr h
  have hl := lv_entry ([.ref h0, .int p0]) (n := 3) (Nat.le_of_ble_eq_true rfl)
  rw [lg_entry_eq]
  generalize (lg_sl ([.ref h0, .int p0]) ++ List.replicate (3 - (lg_sl ([.ref h0, .int p0])).length) Slot.unset).toArray = ls at hl ⊢
  have hl : lv_has ls 3 [(0, .ref h0), (1, .int p0)] := hl
  generalize hH : s.heap = H at hP ⊢
  have hS : va_S A s.heap H [] := by rw [← hH]; exact va_S.rf
  refine lv_aload_n hx hb dX8_bestSpeaker_0 rfl (lv_at hl 0 rfl) ?_
  refine va_get (D := D) (ci := 0) (v := .ref h2) (C := RX8) (T := TX8) (N := 7) hx hb hts inlX8 hown hK hP 0 rfl rfl 1 (by decide) (hts _ xw1_21) (fun _ h9 => h9) rfl dX8_bestSpeaker_1 ?_
  refine lv_iload_n hx hb dX8_bestSpeaker_4 rfl (lv_at hl 1 rfl) ?_
  have hF := va_free (wc := [(h2, .inr (2, [.ref b1, .ref b2, .ref b3, .ref b4, .long 0])), (b3, .inl (K 0, 24, .inl (fun _ => 0)))]) hD hS hA [1, 2] rfl
  refine xk_i (w1 := fun (_ : Unit) => []) (wc := [(h2, .inr (2, [.ref b1, .ref b2, .ref b3, .ref b4, .long 0])), (b3, .inl (K 0, 24, .inl (fun _ => 0)))]) (wr := [(h0, .inr (0, [.ref h1, .ref h2, .ref h3, .ref h4, .ref h5, .ref h6, .ref h7]))]) (va_runV (As := [.int p0]) (rest := []) ⟨hx, hb, hml, hown, hts⟩ (c_X7_speakerAt l D K h2 b1 b2 b3 b4 H.size p0) (cwV 1 hts xg_RX8_X7_speakerAt_336 rfl rfl rfl (by decide +kernel) ⟨Nat.le_of_ble_eq_true rfl, Nat.le_of_ble_eq_true rfl⟩) ⟨xPre.blind, va_recv hK hP (ci := 2) (q0 := 1) rfl rfl, xPre.call hE hS (hP.sub [1, 2] rfl) (hD.sub [1, 2] (by decide) rfl) hF⟩ rfl rfl hl.1 rfl (lv_room (Nat.le_of_ble_eq_true rfl)) dX8_bestSpeaker_5 ⟨Nat.le_of_ble_eq_true rfl, Nat.le_of_ble_eq_true rfl⟩) hP hD hS hF [1, 2] [0] rfl rfl rfl (by decide) (fun r_2 u_1 H locs hw_3 hP hD hS => ?_)
  obtain rfl := hw_3
  have hP : va_P D xCl [(h0, .inr (0, [.ref h1, .ref h2, .ref h3, .ref h4, .ref h5, .ref h6, .ref h7]))] H := hP
  have hD : va_D A [(h0, .inr (0, [.ref h1, .ref h2, .ref h3, .ref h4, .ref h5, .ref h6, .ref h7]))] := hD
  refine lv_istore_n (lv' := [(2, .int (-1)), (0, .ref h0), (1, .int p0)]) hx hb dX8_bestSpeaker_8 rfl hl (by decide) rfl (fun ls hl => ?_)
  refine lv_iload_n hx hb dX8_bestSpeaker_9 rfl (lv_at hl 0 rfl) ?_
  refine lv_iconst (v := (-1)) hx hb dX8_bestSpeaker_10 (by decide) ?_
  refine lv_icmp_ne (tgt := 24) hx hb dX8_bestSpeaker_11 (by decide) (fun c_4 => absurd (by decide) c_4) (fun _ => ?_)
  obtain ⟨sa_5, hs_6⟩ := hE.1.2.2.2.2.1 (253, "there is no such rank") (List.mem_of_getElem? (i := 15) rfl)
  exact vx_throwS (cls := "java/lang/IndexOutOfBoundsException") (names := ["java/lang/RuntimeException", "java/lang/Exception"]) (ic := 255) hx hb hst hown (by decide +kernel) (by decide +kernel) (hts _ xw31_10) (hts _ xw31_11) hs_6 (xat_IOB hE.1 _) xot_IOB hE.2.2.1 hE.2.2.2 hS (hl.1.trans hml.symm) dX8_bestSpeaker_14 dX8_bestSpeaker_17 dX8_bestSpeaker_18 dX8_bestSpeaker_20 dX8_bestSpeaker_23 (fun x hx9 => (hte x hx9).elim) (by decide) (Nat.le_of_ble_eq_true rfl) (Nat.le_of_ble_eq_true rfl) (Nat.le_of_ble_eq_true rfl) hlocks (fun t hW h1 h2 => ⟨(), trivial, rfl, Nat.le_trans hS.1 h1, fun q hq hn => (h2 q (Nat.lt_of_lt_of_le hq hS.1)).trans (hS.2.1 q hq hn)⟩) hS.2.2 (Nat.le_of_ble_eq_true rfl) (Nat.le_of_ble_eq_true rfl)
set_option maxHeartbeats 4000000 in
set_option maxRecDepth 100000 in
theorem c_J7_fill_53178 (l : Launch) (D : va_G) (K : Nat → ClassId) (d3 : Nat) (sz : Nat) : Met l yJ7_fill_53178 [.code yJ7_fill_53178 cJ7_fill_53178 4 none] ({ frames := 0, cells := 0, slots := 0, locals := 0 }) (xPre D K [.ref d3, .int 0] [(d3, .inl (K 0, 6, .inl (fun _ => 0)))] sz) (va_Qv (fun (u : Unit) => True) (fun u t => xW D (va_A [(d3, .inl (K 0, 6, .inl (fun _ => 0)))] sz) ((fun (_ : Unit) => []) u) t) (va_A [(d3, .inl (K 0, 6, .inl (fun _ => 0)))] sz)) 0 0 (va_A [(d3, .inl (K 0, 6, .inl (fun _ => 0)))] sz) := by
  refine Met.ofW (cc := cJ7_fill_53178) (maxL := 4) (ret := none) (by decide) rfl ?_
  intro p e s m args below meth c s₁ B hml hv
  obtain ⟨rfl, hsz, hP, hD0, hE⟩ := hv
  have hx := B.exec
  have hb := B.bytes
  have hr := B.returns
  have hlocks := B.notSynchronized
  have hts := hE.1.ts ([.ref d3, .int 0] : List Value).toArray
  have hnt := hE.1.nt ([.ref d3, .int 0] : List Value).toArray
  have hK := hE.2.1
  have hown : s.vm.findClass RJ7 = some m.cls := findClass_of_methodNamed B.named
  subst hsz
  have hD := hD0.self (sz := s.heap.size)
  generalize hAe : va_A [(d3, .inl (K 0, 6, .inl (fun _ => 0)))] s.heap.size = A at hD hE ⊢
  have hA : ∀ q : Nat, s.heap.size ≤ q → A q := fun q h => by rw [← hAe]; exact Or.inr h
  have hl := lv_entry ([.ref d3, .int 0]) (n := 4) (Nat.le_of_ble_eq_true rfl)
  rw [lg_entry_eq]
  generalize (lg_sl ([.ref d3, .int 0]) ++ List.replicate (4 - (lg_sl ([.ref d3, .int 0])).length) Slot.unset).toArray = ls at hl ⊢
  have hl : lv_has ls 4 [(0, .ref d3), (1, .int 0)] := hl
  generalize hH : s.heap = H at hP ⊢
  have hS : va_S A s.heap H [] := by rw [← hH]; exact va_S.rf
  refine lv_iconst (v := 0) hx hb dJ7_fill_53178_0 (by decide) ?_
  refine lv_istore_n (lv' := [(2, .int 0), (0, .ref d3), (1, .int 0)]) hx hb dJ7_fill_53178_1 rfl hl (by decide) rfl (fun ls hl => ?_)
  refine lv_aload_n hx hb dJ7_fill_53178_2 rfl (lv_at hl 1 rfl) ?_
  refine va_alen (v := 6) hx hb hK hP 0 0 rfl rfl (by decide) dJ7_fill_53178_3 ?_
  refine lv_istore_n (lv' := [(3, .int 6), (2, .int 0), (0, .ref d3), (1, .int 0)]) hx hb dJ7_fill_53178_4 rfl hl (by decide) rfl (fun ls hl => ?_)
  refine lv_iload_n hx hb dJ7_fill_53178_5 rfl (lv_at hl 1 rfl) ?_
  refine lv_iload_n hx hb dJ7_fill_53178_6 rfl (lv_at hl 0 rfl) ?_
  refine lv_icmp_ge (tgt := 20) hx hb dJ7_fill_53178_7 (by decide) (fun c_1 => absurd c_1 (by decide)) (fun _ => ?_)
  refine lv_aload_n hx hb dJ7_fill_53178_10 rfl (lv_at hl 2 rfl) ?_
  refine lv_iload_n hx hb dJ7_fill_53178_11 rfl (lv_at hl 1 rfl) ?_
  refine lv_iload_n hx hb dJ7_fill_53178_12 rfl (lv_at hl 3 rfl) ?_
  refine va_iast hx hb hK hP hD hS 0 0 rfl rfl (by unfold vp_in; decide) dJ7_fill_53178_13 (fun H locs hP hD hS => ?_)
  have hP : va_P D xCl [(d3, .inl (K 0, 6, .inl (upd (fun _ => 0) ((0 : Int32).toNatClampNeg) 0)))] H := hP
  have hD : va_D A [(d3, .inl (K 0, 6, .inl (upd (fun _ => 0) ((0 : Int32).toNatClampNeg) 0)))] := hD
  refine lv_iinc (v := 1) (lv' := [(2, .int 1), (3, .int 6), (0, .ref d3), (1, .int 0)]) hx hb dJ7_fill_53178_14 hl (k := 1) rfl (by decide) (by decide) rfl (fun ls hl => ?_)
  refine lv_goto (tgt := 5) hx hb dJ7_fill_53178_17 (by decide) ?_
  refine lv_iload_n hx hb dJ7_fill_53178_5 rfl (lv_at hl 0 rfl) ?_
  refine lv_iload_n hx hb dJ7_fill_53178_6 rfl (lv_at hl 1 rfl) ?_
  refine lv_icmp_ge (tgt := 20) hx hb dJ7_fill_53178_7 (by decide) (fun c_2 => absurd c_2 (by decide)) (fun _ => ?_)
  refine lv_aload_n hx hb dJ7_fill_53178_10 rfl (lv_at hl 2 rfl) ?_
  refine lv_iload_n hx hb dJ7_fill_53178_11 rfl (lv_at hl 0 rfl) ?_
  refine lv_iload_n hx hb dJ7_fill_53178_12 rfl (lv_at hl 3 rfl) ?_
  refine va_iast hx hb hK hP hD hS 0 0 rfl rfl (by unfold vp_in; decide) dJ7_fill_53178_13 (fun H locs hP hD hS => ?_)
  have hP : va_P D xCl [(d3, .inl (K 0, 6, .inl (upd (upd (fun _ => 0) ((0 : Int32).toNatClampNeg) 0) ((1 : Int32).toNatClampNeg) 0)))] H := hP
  have hD : va_D A [(d3, .inl (K 0, 6, .inl (upd (upd (fun _ => 0) ((0 : Int32).toNatClampNeg) 0) ((1 : Int32).toNatClampNeg) 0)))] := hD
  refine lv_iinc (v := 2) (lv' := [(2, .int 2), (3, .int 6), (0, .ref d3), (1, .int 0)]) hx hb dJ7_fill_53178_14 hl (k := 0) rfl (by decide) (by decide) rfl (fun ls hl => ?_)
  refine lv_goto (tgt := 5) hx hb dJ7_fill_53178_17 (by decide) ?_
  refine lv_iload_n hx hb dJ7_fill_53178_5 rfl (lv_at hl 0 rfl) ?_
  refine lv_iload_n hx hb dJ7_fill_53178_6 rfl (lv_at hl 1 rfl) ?_
  refine lv_icmp_ge (tgt := 20) hx hb dJ7_fill_53178_7 (by decide) (fun c_3 => absurd c_3 (by decide)) (fun _ => ?_)
  refine lv_aload_n hx hb dJ7_fill_53178_10 rfl (lv_at hl 2 rfl) ?_
  refine lv_iload_n hx hb dJ7_fill_53178_11 rfl (lv_at hl 0 rfl) ?_
  refine lv_iload_n hx hb dJ7_fill_53178_12 rfl (lv_at hl 3 rfl) ?_
  refine va_iast hx hb hK hP hD hS 0 0 rfl rfl (by unfold vp_in; decide) dJ7_fill_53178_13 (fun H locs hP hD hS => ?_)
  have hP : va_P D xCl [(d3, .inl (K 0, 6, .inl (upd (upd (upd (fun _ => 0) ((0 : Int32).toNatClampNeg) 0) ((1 : Int32).toNatClampNeg) 0) ((2 : Int32).toNatClampNeg) 0)))] H := hP
  have hD : va_D A [(d3, .inl (K 0, 6, .inl (upd (upd (upd (fun _ => 0) ((0 : Int32).toNatClampNeg) 0) ((1 : Int32).toNatClampNeg) 0) ((2 : Int32).toNatClampNeg) 0)))] := hD
  refine lv_iinc (v := 3) (lv' := [(2, .int 3), (3, .int 6), (0, .ref d3), (1, .int 0)]) hx hb dJ7_fill_53178_14 hl (k := 0) rfl (by decide) (by decide) rfl (fun ls hl => ?_)
  refine lv_goto (tgt := 5) hx hb dJ7_fill_53178_17 (by decide) ?_
  refine lv_iload_n hx hb dJ7_fill_53178_5 rfl (lv_at hl 0 rfl) ?_
  refine lv_iload_n hx hb dJ7_fill_53178_6 rfl (lv_at hl 1 rfl) ?_
  refine lv_icmp_ge (tgt := 20) hx hb dJ7_fill_53178_7 (by decide) (fun c_4 => absurd c_4 (by decide)) (fun _ => ?_)
  refine lv_aload_n hx hb dJ7_fill_53178_10 rfl (lv_at hl 2 rfl) ?_
  refine lv_iload_n hx hb dJ7_fill_53178_11 rfl (lv_at hl 0 rfl) ?_
  refine lv_iload_n hx hb dJ7_fill_53178_12 rfl (lv_at hl 3 rfl) ?_
  refine va_iast hx hb hK hP hD hS 0 0 rfl rfl (by unfold vp_in; decide) dJ7_fill_53178_13 (fun H locs hP hD hS => ?_)
  have hP : va_P D xCl [(d3, .inl (K 0, 6, .inl (upd (upd (upd (upd (fun _ => 0) ((0 : Int32).toNatClampNeg) 0) ((1 : Int32).toNatClampNeg) 0) ((2 : Int32).toNatClampNeg) 0) ((3 : Int32).toNatClampNeg) 0)))] H := hP
  have hD : va_D A [(d3, .inl (K 0, 6, .inl (upd (upd (upd (upd (fun _ => 0) ((0 : Int32).toNatClampNeg) 0) ((1 : Int32).toNatClampNeg) 0) ((2 : Int32).toNatClampNeg) 0) ((3 : Int32).toNatClampNeg) 0)))] := hD
  refine lv_iinc (v := 4) (lv' := [(2, .int 4), (3, .int 6), (0, .ref d3), (1, .int 0)]) hx hb dJ7_fill_53178_14 hl (k := 0) rfl (by decide) (by decide) rfl (fun ls hl => ?_)
  refine lv_goto (tgt := 5) hx hb dJ7_fill_53178_17 (by decide) ?_
  refine lv_iload_n hx hb dJ7_fill_53178_5 rfl (lv_at hl 0 rfl) ?_
  refine lv_iload_n hx hb dJ7_fill_53178_6 rfl (lv_at hl 1 rfl) ?_
  refine lv_icmp_ge (tgt := 20) hx hb dJ7_fill_53178_7 (by decide) (fun c_5 => absurd c_5 (by decide)) (fun _ => ?_)
  refine lv_aload_n hx hb dJ7_fill_53178_10 rfl (lv_at hl 2 rfl) ?_
  refine lv_iload_n hx hb dJ7_fill_53178_11 rfl (lv_at hl 0 rfl) ?_
  refine lv_iload_n hx hb dJ7_fill_53178_12 rfl (lv_at hl 3 rfl) ?_
  refine va_iast hx hb hK hP hD hS 0 0 rfl rfl (by unfold vp_in; decide) dJ7_fill_53178_13 (fun H locs hP hD hS => ?_)
  have hP : va_P D xCl [(d3, .inl (K 0, 6, .inl (upd (upd (upd (upd (upd (fun _ => 0) ((0 : Int32).toNatClampNeg) 0) ((1 : Int32).toNatClampNeg) 0) ((2 : Int32).toNatClampNeg) 0) ((3 : Int32).toNatClampNeg) 0) ((4 : Int32).toNatClampNeg) 0)))] H := hP
  have hD : va_D A [(d3, .inl (K 0, 6, .inl (upd (upd (upd (upd (upd (fun _ => 0) ((0 : Int32).toNatClampNeg) 0) ((1 : Int32).toNatClampNeg) 0) ((2 : Int32).toNatClampNeg) 0) ((3 : Int32).toNatClampNeg) 0) ((4 : Int32).toNatClampNeg) 0)))] := hD
  refine lv_iinc (v := 5) (lv' := [(2, .int 5), (3, .int 6), (0, .ref d3), (1, .int 0)]) hx hb dJ7_fill_53178_14 hl (k := 0) rfl (by decide) (by decide) rfl (fun ls hl => ?_)
  refine lv_goto (tgt := 5) hx hb dJ7_fill_53178_17 (by decide) ?_
  refine lv_iload_n hx hb dJ7_fill_53178_5 rfl (lv_at hl 0 rfl) ?_
  refine lv_iload_n hx hb dJ7_fill_53178_6 rfl (lv_at hl 1 rfl) ?_
  refine lv_icmp_ge (tgt := 20) hx hb dJ7_fill_53178_7 (by decide) (fun c_6 => absurd c_6 (by decide)) (fun _ => ?_)
  refine lv_aload_n hx hb dJ7_fill_53178_10 rfl (lv_at hl 2 rfl) ?_
  refine lv_iload_n hx hb dJ7_fill_53178_11 rfl (lv_at hl 0 rfl) ?_
  refine lv_iload_n hx hb dJ7_fill_53178_12 rfl (lv_at hl 3 rfl) ?_
  refine va_iast hx hb hK hP hD hS 0 0 rfl rfl (by unfold vp_in; decide) dJ7_fill_53178_13 (fun H locs hP hD hS => ?_)
  have hP : va_P D xCl [(d3, .inl (K 0, 6, .inl (upd (upd (upd (upd (upd (upd (fun _ => 0) ((0 : Int32).toNatClampNeg) 0) ((1 : Int32).toNatClampNeg) 0) ((2 : Int32).toNatClampNeg) 0) ((3 : Int32).toNatClampNeg) 0) ((4 : Int32).toNatClampNeg) 0) ((5 : Int32).toNatClampNeg) 0)))] H := hP
  have hD : va_D A [(d3, .inl (K 0, 6, .inl (upd (upd (upd (upd (upd (upd (fun _ => 0) ((0 : Int32).toNatClampNeg) 0) ((1 : Int32).toNatClampNeg) 0) ((2 : Int32).toNatClampNeg) 0) ((3 : Int32).toNatClampNeg) 0) ((4 : Int32).toNatClampNeg) 0) ((5 : Int32).toNatClampNeg) 0)))] := hD
  refine lv_iinc (v := 6) (lv' := [(2, .int 6), (3, .int 6), (0, .ref d3), (1, .int 0)]) hx hb dJ7_fill_53178_14 hl (k := 0) rfl (by decide) (by decide) rfl (fun ls hl => ?_)
  refine lv_goto (tgt := 5) hx hb dJ7_fill_53178_17 (by decide) ?_
  refine lv_iload_n hx hb dJ7_fill_53178_5 rfl (lv_at hl 0 rfl) ?_
  refine lv_iload_n hx hb dJ7_fill_53178_6 rfl (lv_at hl 1 rfl) ?_
  refine lv_icmp_ge (tgt := 20) hx hb dJ7_fill_53178_7 (by decide) (fun _ => ?_) (fun c_7 => absurd (by decide) c_7)
  have hP9 : va_P D xCl [] H := hP.sub [] rfl
  have hD9 : va_D A [] := hD.sub [] (by decide) rfl
  refine W.widen (k := 0) (n := 0) (Nat.le_of_ble_eq_true rfl) (Nat.le_of_ble_eq_true rfl) ?_
  exact W.vret hx hb hr (fun t ht hW => ⟨⟨(), rfl, trivial, by rw [ht]; exact hP9, hD9⟩, hS.F ht⟩) hS.2.2 dJ7_fill_53178_20
set_option maxHeartbeats 4000000 in
set_option maxRecDepth 100000 in
theorem c_X4_breakingTeam (l : Launch) (D : va_G) (K : Nat → ClassId) (h4 h1 h2 h3 d1 d2 d3 a1 a2 a3 a4 a5 a6 : Nat) (sz : Nat) (p0 : Int32) : Met l yX4_breakingTeam [.code yX4_breakingTeam cX4_breakingTeam 5 (some .int)] ({ frames := 1, cells := 0, slots := 0, locals := 23 }) (xPre D K [.ref h4, .int p0] [(h4, .inr (4, [.ref h1, .ref h2, .ref h3, .ref d1, .ref d2, .ref d3])), (h1, .inr (1, [.ref a1, .ref a2, .ref a3, .ref a4, .ref a5, .ref a6, .int 0, .int 0])), (d3, .inl (K 0, 6, .inl (fun _ => 0)))] sz) (va_Qi (fun (r : Int32) (u : Unit) => r = (-1)) (fun u t => xW D (va_A [(h4, .inr (4, [.ref h1, .ref h2, .ref h3, .ref d1, .ref d2, .ref d3])), (h1, .inr (1, [.ref a1, .ref a2, .ref a3, .ref a4, .ref a5, .ref a6, .int 0, .int 0])), (d3, .inl (K 0, 6, .inl (fun _ => 0)))] sz) ((fun (_ : Unit) => []) u) t) (va_A [(h4, .inr (4, [.ref h1, .ref h2, .ref h3, .ref d1, .ref d2, .ref d3])), (h1, .inr (1, [.ref a1, .ref a2, .ref a3, .ref a4, .ref a5, .ref a6, .int 0, .int 0])), (d3, .inl (K 0, 6, .inl (fun _ => 0)))] sz)) 0 0 (va_A [(h4, .inr (4, [.ref h1, .ref h2, .ref h3, .ref d1, .ref d2, .ref d3])), (h1, .inr (1, [.ref a1, .ref a2, .ref a3, .ref a4, .ref a5, .ref a6, .int 0, .int 0])), (d3, .inl (K 0, 6, .inl (fun _ => 0)))] sz) := by
  refine Met.ofW (cc := cX4_breakingTeam) (maxL := 5) (ret := (some .int)) (by decide) rfl ?_
  intro p e s m args below meth c s₁ B hml hv
  obtain ⟨rfl, hsz, hP, hD0, hE⟩ := hv
  have hx := B.exec
  have hb := B.bytes
  have hr := B.returns
  have hlocks := B.notSynchronized
  have hts := hE.1.ts ([.ref h4, .int p0] : List Value).toArray
  have hnt := hE.1.nt ([.ref h4, .int p0] : List Value).toArray
  have hK := hE.2.1
  have hown : s.vm.findClass RX4 = some m.cls := findClass_of_methodNamed B.named
  subst hsz
  have hD := hD0.self (sz := s.heap.size)
  generalize hAe : va_A [(h4, .inr (4, [.ref h1, .ref h2, .ref h3, .ref d1, .ref d2, .ref d3])), (h1, .inr (1, [.ref a1, .ref a2, .ref a3, .ref a4, .ref a5, .ref a6, .int 0, .int 0])), (d3, .inl (K 0, 6, .inl (fun _ => 0)))] s.heap.size = A at hD hE ⊢
  have hA : ∀ q : Nat, s.heap.size ≤ q → A q := fun q h => by rw [← hAe]; exact Or.inr h
  have hl := lv_entry ([.ref h4, .int p0]) (n := 5) (Nat.le_of_ble_eq_true rfl)
  rw [lg_entry_eq]
  generalize (lg_sl ([.ref h4, .int p0]) ++ List.replicate (5 - (lg_sl ([.ref h4, .int p0])).length) Slot.unset).toArray = ls at hl ⊢
  have hl : lv_has ls 5 [(0, .ref h4), (1, .int p0)] := hl
  generalize hH : s.heap = H at hP ⊢
  have hS : va_S A s.heap H [] := by rw [← hH]; exact va_S.rf
  refine lv_aload_n hx hb dX4_breakingTeam_0 rfl (lv_at hl 0 rfl) ?_
  refine va_get (D := D) (ci := 4) (v := .ref d3) (C := RX4) (T := TX4) (N := 6) hx hb hts inlX4 hown hK hP 0 rfl rfl 5 (by decide) (hts _ xw4_15) (fun _ h9 => h9) rfl dX4_breakingTeam_1 ?_
  refine lv_iconst (v := 0) hx hb dX4_breakingTeam_4 (by decide) ?_
  have hF := va_free (wc := [(d3, .inl (K 0, 6, .inl (fun _ => 0)))]) hD hS hA [2] rfl
  refine xk_v (w1 := fun (_ : Unit) => []) (wc := [(d3, .inl (K 0, 6, .inl (fun _ => 0)))]) (wr := [(h4, .inr (4, [.ref h1, .ref h2, .ref h3, .ref d1, .ref d2, .ref d3])), (h1, .inr (1, [.ref a1, .ref a2, .ref a3, .ref a4, .ref a5, .ref a6, .int 0, .int 0]))]) (va_runS (As := [.ref d3, .int 0]) (rest := []) ⟨hx, hb, hml, hown, hts⟩ (c_J7_fill_53178 l D K d3 H.size) (va_cwS 2 hts xg_RX4_J7_fill_53178_57 rfl rfl rfl (by decide +kernel) ⟨Nat.le_of_ble_eq_true rfl, Nat.le_of_ble_eq_true rfl⟩) ⟨xPre.blind, xPre.call hE hS (hP.sub [2] rfl) (hD.sub [2] (by decide) rfl) hF⟩ rfl rfl hl.1 rfl (lv_room (Nat.le_of_ble_eq_true rfl)) dX4_breakingTeam_5 ⟨Nat.le_of_ble_eq_true rfl, Nat.le_of_ble_eq_true rfl⟩) hP hD hS hF [2] [0, 1] rfl rfl rfl (by decide) (fun u_1 H locs hw_3 hP hD hS => ?_)
  have hP : va_P D xCl [(h4, .inr (4, [.ref h1, .ref h2, .ref h3, .ref d1, .ref d2, .ref d3])), (h1, .inr (1, [.ref a1, .ref a2, .ref a3, .ref a4, .ref a5, .ref a6, .int 0, .int 0]))] H := hP
  have hD : va_D A [(h4, .inr (4, [.ref h1, .ref h2, .ref h3, .ref d1, .ref d2, .ref d3])), (h1, .inr (1, [.ref a1, .ref a2, .ref a3, .ref a4, .ref a5, .ref a6, .int 0, .int 0]))] := hD
  refine lv_iconst (v := 0) hx hb dX4_breakingTeam_8 (by decide) ?_
  refine lv_istore_n (lv' := [(2, .int 0), (0, .ref h4), (1, .int p0)]) hx hb dX4_breakingTeam_9 rfl hl (by decide) rfl (fun ls hl => ?_)
  refine lv_iconst (v := 0) hx hb dX4_breakingTeam_10 (by decide) ?_
  refine lv_istore_n (lv' := [(3, .int 0), (2, .int 0), (0, .ref h4), (1, .int p0)]) hx hb dX4_breakingTeam_11 rfl hl (by decide) rfl (fun ls hl => ?_)
  refine lv_iload_n hx hb dX4_breakingTeam_12 rfl (lv_at hl 0 rfl) ?_
  refine lv_aload_n hx hb dX4_breakingTeam_13 rfl (lv_at hl 2 rfl) ?_
  refine va_get (D := D) (ci := 4) (v := .ref h1) (C := RX4) (T := TX4) (N := 6) hx hb hts inlX4 hown hK hP 0 rfl rfl 0 (by decide) (hts _ xw4_16) (fun _ h9 => h9) rfl dX4_breakingTeam_14 ?_
  refine va_getN (D := D) (ci := 1) (v := .int 0) (C := RX5) (T := TX5) (N := 8) hx hb hts inlX5 hown hK hP 1 rfl rfl 6 (by decide) (hnt _ xn7) (fun _ h9 => h9) rfl dX4_breakingTeam_17 ?_
  refine lv_icmp_ge (tgt := 82) hx hb dX4_breakingTeam_20 (by decide) (fun _ => ?_) (fun c_4 => absurd (by decide) c_4)
  refine lv_iconst (v := (-1)) hx hb dX4_breakingTeam_82 (by decide) ?_
  have hP9 : va_P D xCl [] H := hP.sub [] rfl
  have hD9 : va_D A [] := hD.sub [] (by decide) rfl
  refine W.widen (k := 0) (n := 0) (Nat.le_of_ble_eq_true rfl) (Nat.le_of_ble_eq_true rfl) ?_
  exact W.iret (v := (-1)) hx hb hr (fun t ht hW => ⟨⟨(-1), (), rfl, rfl, by rw [ht]; exact hP9, hD9⟩, hS.F ht⟩) hS.2.2 dX4_breakingTeam_83
set_option maxHeartbeats 4000000 in
set_option maxRecDepth 100000 in
theorem c_X8_breaks (l : Launch) (hst : l.stackTraces = false) (D : va_G) (K : Nat → ClassId) (h0 h1 h2 h3 h4 h5 h6 h7 d1 d2 d3 a1 a2 a3 a4 a5 a6 : Nat) (sz : Nat) (p0 p1 : Int32) : vx_Met l yX8_breaks [.code yX8_breaks cX8_breaks 4 (some .int)] ({ frames := 6, cells := 1, slots := 6, locals := 82 }) (xPre D K [.ref h0, .int p0, .int p1] [(h0, .inr (0, [.ref h1, .ref h2, .ref h3, .ref h4, .ref h5, .ref h6, .ref h7])), (h4, .inr (4, [.ref h1, .ref h2, .ref h3, .ref d1, .ref d2, .ref d3])), (h1, .inr (1, [.ref a1, .ref a2, .ref a3, .ref a4, .ref a5, .ref a6, .int 0, .int 0])), (d3, .inl (K 0, 6, .inl (fun _ => 0)))] sz) (va_Qi (fun (r : Int32) (u : Unit) => False) (fun u t => xW D (va_A [(h0, .inr (0, [.ref h1, .ref h2, .ref h3, .ref h4, .ref h5, .ref h6, .ref h7])), (h4, .inr (4, [.ref h1, .ref h2, .ref h3, .ref d1, .ref d2, .ref d3])), (h1, .inr (1, [.ref a1, .ref a2, .ref a3, .ref a4, .ref a5, .ref a6, .int 0, .int 0])), (d3, .inl (K 0, 6, .inl (fun _ => 0)))] sz) ((fun (_ : Unit) => []) u) t) (va_A [(h0, .inr (0, [.ref h1, .ref h2, .ref h3, .ref h4, .ref h5, .ref h6, .ref h7])), (h4, .inr (4, [.ref h1, .ref h2, .ref h3, .ref d1, .ref d2, .ref d3])), (h1, .inr (1, [.ref a1, .ref a2, .ref a3, .ref a4, .ref a5, .ref a6, .int 0, .int 0])), (d3, .inl (K 0, 6, .inl (fun _ => 0)))] sz)) (vx_X (S := Unit) (fun _ => True) (fun E _ _ => (fun E => (p1 = 2 ∧ p0 < 0 ∧ E = "java/lang/IndexOutOfBoundsException") ∨ (p1 = 2 ∧ ¬ p0 < 0 ∧ p0 < p1 ∧ E = "java/lang/IndexOutOfBoundsException") ∨ (p1 = 2 ∧ ¬ p0 < 0 ∧ ¬ p0 < p1 ∧ E = "java/lang/IndexOutOfBoundsException") ∨ (¬ p1 = 2 ∧ p1 = 4 ∧ p0 < 0 ∧ E = "java/lang/IndexOutOfBoundsException") ∨ (¬ p1 = 2 ∧ p1 = 4 ∧ ¬ p0 < 0 ∧ p0 < p1 ∧ E = "java/lang/IndexOutOfBoundsException") ∨ (¬ p1 = 2 ∧ p1 = 4 ∧ ¬ p0 < 0 ∧ ¬ p0 < p1 ∧ E = "java/lang/IndexOutOfBoundsException") ∨ (¬ p1 = 2 ∧ ¬ p1 = 4 ∧ p1 = 8 ∧ p0 < 0 ∧ E = "java/lang/IndexOutOfBoundsException") ∨ (¬ p1 = 2 ∧ ¬ p1 = 4 ∧ p1 = 8 ∧ ¬ p0 < 0 ∧ p0 < p1 ∧ E = "java/lang/IndexOutOfBoundsException") ∨ (¬ p1 = 2 ∧ ¬ p1 = 4 ∧ p1 = 8 ∧ ¬ p0 < 0 ∧ ¬ p0 < p1 ∧ E = "java/lang/IndexOutOfBoundsException") ∨ (¬ p1 = 2 ∧ ¬ p1 = 4 ∧ ¬ p1 = 8 ∧ E = "java/lang/IllegalArgumentException")) E) (va_A [(h0, .inr (0, [.ref h1, .ref h2, .ref h3, .ref h4, .ref h5, .ref h6, .ref h7])), (h4, .inr (4, [.ref h1, .ref h2, .ref h3, .ref d1, .ref d2, .ref d3])), (h1, .inr (1, [.ref a1, .ref a2, .ref a3, .ref a4, .ref a5, .ref a6, .int 0, .int 0])), (d3, .inl (K 0, 6, .inl (fun _ => 0)))] sz)) 1 6 (va_A [(h0, .inr (0, [.ref h1, .ref h2, .ref h3, .ref h4, .ref h5, .ref h6, .ref h7])), (h4, .inr (4, [.ref h1, .ref h2, .ref h3, .ref d1, .ref d2, .ref d3])), (h1, .inr (1, [.ref a1, .ref a2, .ref a3, .ref a4, .ref a5, .ref a6, .int 0, .int 0])), (d3, .inl (K 0, 6, .inl (fun _ => 0)))] sz) := by
  refine vx_ofW (cc := cX8_breaks) (maxL := 4) (ret := (some .int)) (by decide) rfl ?_
  intro p e s m args below meth c s₁ B hml hte hv
  obtain ⟨rfl, hsz, hP, hD0, hE⟩ := hv
  have hx := B.exec
  have hb := B.bytes
  have hr := B.returns
  have hlocks := B.notSynchronized
  have hts := hE.1.ts ([.ref h0, .int p0, .int p1] : List Value).toArray
  have hnt := hE.1.nt ([.ref h0, .int p0, .int p1] : List Value).toArray
  have hK := hE.2.1
  have hown : s.vm.findClass RX8 = some m.cls := findClass_of_methodNamed B.named
  subst hsz
  have hD := hD0.self (sz := s.heap.size)
  generalize hAe : va_A [(h0, .inr (0, [.ref h1, .ref h2, .ref h3, .ref h4, .ref h5, .ref h6, .ref h7])), (h4, .inr (4, [.ref h1, .ref h2, .ref h3, .ref d1, .ref d2, .ref d3])), (h1, .inr (1, [.ref a1, .ref a2, .ref a3, .ref a4, .ref a5, .ref a6, .int 0, .int 0])), (d3, .inl (K 0, 6, .inl (fun _ => 0)))] s.heap.size = A at hD hE ⊢
  have hA : ∀ q : Nat, s.heap.size ≤ q → A q := fun q h => by rw [← hAe]; exact Or.inr h
  have hl := lv_entry ([.ref h0, .int p0, .int p1]) (n := 4) (Nat.le_of_ble_eq_true rfl)
  rw [lg_entry_eq]
  generalize (lg_sl ([.ref h0, .int p0, .int p1]) ++ List.replicate (4 - (lg_sl ([.ref h0, .int p0, .int p1])).length) Slot.unset).toArray = ls at hl ⊢
  have hl : lv_has ls 4 [(0, .ref h0), (1, .int p0), (2, .int p1)] := hl
  generalize hH : s.heap = H at hP ⊢
  have hS : va_S A s.heap H [] := by rw [← hH]; exact va_S.rf
  refine lv_iload_n hx hb dX8_breaks_0 rfl (lv_at hl 2 rfl) ?_
  refine lv_iconst (v := 2) hx hb dX8_breaks_1 (by decide) ?_
  refine lv_icmp_eq (tgt := 27) hx hb dX8_breaks_2 (by decide) (fun c_1 => ?_) (fun c_1 => ?_)
  · refine lv_iload_n hx hb dX8_breaks_27 rfl (lv_at hl 1 rfl) ?_
    refine lv_if_lt (tgt := 36) hx hb dX8_breaks_28 (by decide) (fun c_2 => ?_) (fun c_2 => ?_)
    · obtain ⟨sa_3, hs_4⟩ := hE.1.2.2.2.2.1 (341, "there is no such seed") (List.mem_of_getElem? (i := 21) rfl)
      exact vx_throwSW (cls := "java/lang/IndexOutOfBoundsException") (names := ["java/lang/RuntimeException", "java/lang/Exception"]) (ic := 255) hx hb hst hown (by decide +kernel) (by decide +kernel) (hts _ xw31_10) (hts _ xw31_11) hs_4 (xat_IOB hE.1 _) xot_IOB hE.2.2.1 hE.2.2.2 hS (hl.1.trans hml.symm) dX8_breaks_36 dX8_breaks_39 dX8_breaks_40 dX8_breaks_43 dX8_breaks_46 (fun x hx9 => (hte x hx9).elim) (by decide) (Nat.le_of_ble_eq_true rfl) (Nat.le_of_ble_eq_true rfl) (Nat.le_of_ble_eq_true rfl) hlocks (fun t hW h1 h2 => ⟨(), trivial, Or.inl ⟨c_1, c_2, rfl⟩, Nat.le_trans hS.1 h1, fun q hq hn => (h2 q (Nat.lt_of_lt_of_le hq hS.1)).trans (hS.2.1 q hq hn)⟩) hS.2.2 (Nat.le_of_ble_eq_true rfl) (Nat.le_of_ble_eq_true rfl)
    · refine lv_iload_n hx hb dX8_breaks_31 rfl (lv_at hl 1 rfl) ?_
      refine lv_iload_n hx hb dX8_breaks_32 rfl (lv_at hl 2 rfl) ?_
      refine lv_icmp_lt (tgt := 47) hx hb dX8_breaks_33 (by decide) (fun c_5 => ?_) (fun c_5 => ?_)
      · refine lv_aload_n hx hb dX8_breaks_47 rfl (lv_at hl 0 rfl) ?_
        refine va_get (D := D) (ci := 0) (v := .ref h4) (C := RX8) (T := TX8) (N := 7) hx hb hts inlX8 hown hK hP 0 rfl rfl 3 (by decide) (hts _ xw2_5) (fun _ h9 => h9) rfl dX8_breaks_48 ?_
        have hF := va_free (wc := [(h4, .inr (4, [.ref h1, .ref h2, .ref h3, .ref d1, .ref d2, .ref d3])), (h1, .inr (1, [.ref a1, .ref a2, .ref a3, .ref a4, .ref a5, .ref a6, .int 0, .int 0]))]) hD hS hA [1, 2] rfl
        refine xk_v (w1 := fun (_ : Unit) => [(h4, .inr (4, [.ref h1, .ref h2, .ref h3, .ref d1, .ref d2, .ref d3])), (h1, .inr (1, [.ref a1, .ref a2, .ref a3, .ref a4, .ref a5, .ref a6, .int 0, .int 0]))]) (wc := [(h4, .inr (4, [.ref h1, .ref h2, .ref h3, .ref d1, .ref d2, .ref d3])), (h1, .inr (1, [.ref a1, .ref a2, .ref a3, .ref a4, .ref a5, .ref a6, .int 0, .int 0]))]) (wr := [(h0, .inr (0, [.ref h1, .ref h2, .ref h3, .ref h4, .ref h5, .ref h6, .ref h7])), (d3, .inl (K 0, 6, .inl (fun _ => 0)))]) (va_runV (As := []) (rest := []) ⟨hx, hb, hml, hown, hts⟩ (c_X4_sort l D K h4 h1 h2 h3 d1 d2 d3 a1 a2 a3 a4 a5 a6 H.size) (cwV 0 hts xg_RX8_X4_sort_256 rfl rfl rfl (by decide +kernel) ⟨Nat.le_of_ble_eq_true rfl, Nat.le_of_ble_eq_true rfl⟩) ⟨xPre.blind, va_recv hK hP (ci := 4) (q0 := 1) rfl rfl, xPre.call hE hS (hP.sub [1, 2] rfl) (hD.sub [1, 2] (by decide) rfl) hF⟩ rfl rfl hl.1 rfl (lv_room (Nat.le_of_ble_eq_true rfl)) dX8_breaks_51 ⟨Nat.le_of_ble_eq_true rfl, Nat.le_of_ble_eq_true rfl⟩) hP hD hS hF [1, 2] [0, 3] rfl rfl rfl (by decide) (fun u_6 H locs hw_8 hP hD hS => ?_)
        have hP : va_P D xCl [(h0, .inr (0, [.ref h1, .ref h2, .ref h3, .ref h4, .ref h5, .ref h6, .ref h7])), (d3, .inl (K 0, 6, .inl (fun _ => 0))), (h4, .inr (4, [.ref h1, .ref h2, .ref h3, .ref d1, .ref d2, .ref d3])), (h1, .inr (1, [.ref a1, .ref a2, .ref a3, .ref a4, .ref a5, .ref a6, .int 0, .int 0]))] H := hP
        have hD : va_D A [(h0, .inr (0, [.ref h1, .ref h2, .ref h3, .ref h4, .ref h5, .ref h6, .ref h7])), (d3, .inl (K 0, 6, .inl (fun _ => 0))), (h4, .inr (4, [.ref h1, .ref h2, .ref h3, .ref d1, .ref d2, .ref d3])), (h1, .inr (1, [.ref a1, .ref a2, .ref a3, .ref a4, .ref a5, .ref a6, .int 0, .int 0]))] := hD
        refine lv_aload_n hx hb dX8_breaks_54 rfl (lv_at hl 0 rfl) ?_
        refine va_get (D := D) (ci := 0) (v := .ref h4) (C := RX8) (T := TX8) (N := 7) hx hb hts inlX8 hown hK hP 0 rfl rfl 3 (by decide) (hts _ xw2_5) (fun _ h9 => h9) rfl dX8_breaks_55 ?_
        refine lv_iload_n hx hb dX8_breaks_58 rfl (lv_at hl 1 rfl) ?_
        have hF := va_free (wc := [(h4, .inr (4, [.ref h1, .ref h2, .ref h3, .ref d1, .ref d2, .ref d3])), (h1, .inr (1, [.ref a1, .ref a2, .ref a3, .ref a4, .ref a5, .ref a6, .int 0, .int 0])), (d3, .inl (K 0, 6, .inl (fun _ => 0)))]) hD hS hA [2, 3, 1] rfl
        refine xk_i (w1 := fun (_ : Unit) => []) (wc := [(h4, .inr (4, [.ref h1, .ref h2, .ref h3, .ref d1, .ref d2, .ref d3])), (h1, .inr (1, [.ref a1, .ref a2, .ref a3, .ref a4, .ref a5, .ref a6, .int 0, .int 0])), (d3, .inl (K 0, 6, .inl (fun _ => 0)))]) (wr := [(h0, .inr (0, [.ref h1, .ref h2, .ref h3, .ref h4, .ref h5, .ref h6, .ref h7]))]) (va_runV (As := [.int p0]) (rest := []) ⟨hx, hb, hml, hown, hts⟩ (c_X4_breakingTeam l D K h4 h1 h2 h3 d1 d2 d3 a1 a2 a3 a4 a5 a6 H.size p0) (cwV 1 hts xg_RX8_X4_breakingTeam_343 rfl rfl rfl (by decide +kernel) ⟨Nat.le_of_ble_eq_true rfl, Nat.le_of_ble_eq_true rfl⟩) ⟨xPre.blind, va_recv hK hP (ci := 4) (q0 := 2) rfl rfl, xPre.call hE hS (hP.sub [2, 3, 1] rfl) (hD.sub [2, 3, 1] (by decide) rfl) hF⟩ rfl rfl hl.1 rfl (lv_room (Nat.le_of_ble_eq_true rfl)) dX8_breaks_59 ⟨Nat.le_of_ble_eq_true rfl, Nat.le_of_ble_eq_true rfl⟩) hP hD hS hF [2, 3, 1] [0] rfl rfl rfl (by decide) (fun r_10 u_9 H locs hw_11 hP hD hS => ?_)
        obtain rfl := hw_11
        have hP : va_P D xCl [(h0, .inr (0, [.ref h1, .ref h2, .ref h3, .ref h4, .ref h5, .ref h6, .ref h7]))] H := hP
        have hD : va_D A [(h0, .inr (0, [.ref h1, .ref h2, .ref h3, .ref h4, .ref h5, .ref h6, .ref h7]))] := hD
        refine lv_istore_n (lv' := [(3, .int (-1)), (0, .ref h0), (1, .int p0), (2, .int p1)]) hx hb dX8_breaks_62 rfl hl (by decide) rfl (fun ls hl => ?_)
        refine lv_iload_n hx hb dX8_breaks_63 rfl (lv_at hl 0 rfl) ?_
        refine lv_iconst (v := (-1)) hx hb dX8_breaks_64 (by decide) ?_
        refine lv_icmp_ne (tgt := 79) hx hb dX8_breaks_65 (by decide) (fun c_12 => absurd (by decide) c_12) (fun _ => ?_)
        obtain ⟨sa_13, hs_14⟩ := hE.1.2.2.2.2.1 (346, "fewer teams break") (List.mem_of_getElem? (i := 22) rfl)
        exact vx_throwSW (cls := "java/lang/IndexOutOfBoundsException") (names := ["java/lang/RuntimeException", "java/lang/Exception"]) (ic := 255) hx hb hst hown (by decide +kernel) (by decide +kernel) (hts _ xw31_10) (hts _ xw31_11) hs_14 (xat_IOB hE.1 _) xot_IOB hE.2.2.1 hE.2.2.2 hS (hl.1.trans hml.symm) dX8_breaks_68 dX8_breaks_71 dX8_breaks_72 dX8_breaks_75 dX8_breaks_78 (fun x hx9 => (hte x hx9).elim) (by decide) (Nat.le_of_ble_eq_true rfl) (Nat.le_of_ble_eq_true rfl) (Nat.le_of_ble_eq_true rfl) hlocks (fun t hW h1 h2 => ⟨(), trivial, Or.inr (Or.inl ⟨c_1, c_2, c_5, rfl⟩), Nat.le_trans hS.1 h1, fun q hq hn => (h2 q (Nat.lt_of_lt_of_le hq hS.1)).trans (hS.2.1 q hq hn)⟩) hS.2.2 (Nat.le_of_ble_eq_true rfl) (Nat.le_of_ble_eq_true rfl)
      · obtain ⟨sa_15, hs_16⟩ := hE.1.2.2.2.2.1 (341, "there is no such seed") (List.mem_of_getElem? (i := 21) rfl)
        exact vx_throwSW (cls := "java/lang/IndexOutOfBoundsException") (names := ["java/lang/RuntimeException", "java/lang/Exception"]) (ic := 255) hx hb hst hown (by decide +kernel) (by decide +kernel) (hts _ xw31_10) (hts _ xw31_11) hs_16 (xat_IOB hE.1 _) xot_IOB hE.2.2.1 hE.2.2.2 hS (hl.1.trans hml.symm) dX8_breaks_36 dX8_breaks_39 dX8_breaks_40 dX8_breaks_43 dX8_breaks_46 (fun x hx9 => (hte x hx9).elim) (by decide) (Nat.le_of_ble_eq_true rfl) (Nat.le_of_ble_eq_true rfl) (Nat.le_of_ble_eq_true rfl) hlocks (fun t hW h1 h2 => ⟨(), trivial, Or.inr (Or.inr (Or.inl ⟨c_1, c_2, c_5, rfl⟩)), Nat.le_trans hS.1 h1, fun q hq hn => (h2 q (Nat.lt_of_lt_of_le hq hS.1)).trans (hS.2.1 q hq hn)⟩) hS.2.2 (Nat.le_of_ble_eq_true rfl) (Nat.le_of_ble_eq_true rfl)
  · refine lv_iload_n hx hb dX8_breaks_5 rfl (lv_at hl 2 rfl) ?_
    refine lv_iconst (v := 4) hx hb dX8_breaks_6 (by decide) ?_
    refine lv_icmp_eq (tgt := 27) hx hb dX8_breaks_7 (by decide) (fun c_17 => ?_) (fun c_17 => ?_)
    · refine lv_iload_n hx hb dX8_breaks_27 rfl (lv_at hl 1 rfl) ?_
      refine lv_if_lt (tgt := 36) hx hb dX8_breaks_28 (by decide) (fun c_18 => ?_) (fun c_18 => ?_)
      · obtain ⟨sa_19, hs_20⟩ := hE.1.2.2.2.2.1 (341, "there is no such seed") (List.mem_of_getElem? (i := 21) rfl)
        exact vx_throwSW (cls := "java/lang/IndexOutOfBoundsException") (names := ["java/lang/RuntimeException", "java/lang/Exception"]) (ic := 255) hx hb hst hown (by decide +kernel) (by decide +kernel) (hts _ xw31_10) (hts _ xw31_11) hs_20 (xat_IOB hE.1 _) xot_IOB hE.2.2.1 hE.2.2.2 hS (hl.1.trans hml.symm) dX8_breaks_36 dX8_breaks_39 dX8_breaks_40 dX8_breaks_43 dX8_breaks_46 (fun x hx9 => (hte x hx9).elim) (by decide) (Nat.le_of_ble_eq_true rfl) (Nat.le_of_ble_eq_true rfl) (Nat.le_of_ble_eq_true rfl) hlocks (fun t hW h1 h2 => ⟨(), trivial, Or.inr (Or.inr (Or.inr (Or.inl ⟨c_1, c_17, c_18, rfl⟩))), Nat.le_trans hS.1 h1, fun q hq hn => (h2 q (Nat.lt_of_lt_of_le hq hS.1)).trans (hS.2.1 q hq hn)⟩) hS.2.2 (Nat.le_of_ble_eq_true rfl) (Nat.le_of_ble_eq_true rfl)
      · refine lv_iload_n hx hb dX8_breaks_31 rfl (lv_at hl 1 rfl) ?_
        refine lv_iload_n hx hb dX8_breaks_32 rfl (lv_at hl 2 rfl) ?_
        refine lv_icmp_lt (tgt := 47) hx hb dX8_breaks_33 (by decide) (fun c_21 => ?_) (fun c_21 => ?_)
        · refine lv_aload_n hx hb dX8_breaks_47 rfl (lv_at hl 0 rfl) ?_
          refine va_get (D := D) (ci := 0) (v := .ref h4) (C := RX8) (T := TX8) (N := 7) hx hb hts inlX8 hown hK hP 0 rfl rfl 3 (by decide) (hts _ xw2_5) (fun _ h9 => h9) rfl dX8_breaks_48 ?_
          have hF := va_free (wc := [(h4, .inr (4, [.ref h1, .ref h2, .ref h3, .ref d1, .ref d2, .ref d3])), (h1, .inr (1, [.ref a1, .ref a2, .ref a3, .ref a4, .ref a5, .ref a6, .int 0, .int 0]))]) hD hS hA [1, 2] rfl
          refine xk_v (w1 := fun (_ : Unit) => [(h4, .inr (4, [.ref h1, .ref h2, .ref h3, .ref d1, .ref d2, .ref d3])), (h1, .inr (1, [.ref a1, .ref a2, .ref a3, .ref a4, .ref a5, .ref a6, .int 0, .int 0]))]) (wc := [(h4, .inr (4, [.ref h1, .ref h2, .ref h3, .ref d1, .ref d2, .ref d3])), (h1, .inr (1, [.ref a1, .ref a2, .ref a3, .ref a4, .ref a5, .ref a6, .int 0, .int 0]))]) (wr := [(h0, .inr (0, [.ref h1, .ref h2, .ref h3, .ref h4, .ref h5, .ref h6, .ref h7])), (d3, .inl (K 0, 6, .inl (fun _ => 0)))]) (va_runV (As := []) (rest := []) ⟨hx, hb, hml, hown, hts⟩ (c_X4_sort l D K h4 h1 h2 h3 d1 d2 d3 a1 a2 a3 a4 a5 a6 H.size) (cwV 0 hts xg_RX8_X4_sort_256 rfl rfl rfl (by decide +kernel) ⟨Nat.le_of_ble_eq_true rfl, Nat.le_of_ble_eq_true rfl⟩) ⟨xPre.blind, va_recv hK hP (ci := 4) (q0 := 1) rfl rfl, xPre.call hE hS (hP.sub [1, 2] rfl) (hD.sub [1, 2] (by decide) rfl) hF⟩ rfl rfl hl.1 rfl (lv_room (Nat.le_of_ble_eq_true rfl)) dX8_breaks_51 ⟨Nat.le_of_ble_eq_true rfl, Nat.le_of_ble_eq_true rfl⟩) hP hD hS hF [1, 2] [0, 3] rfl rfl rfl (by decide) (fun u_22 H locs hw_24 hP hD hS => ?_)
          have hP : va_P D xCl [(h0, .inr (0, [.ref h1, .ref h2, .ref h3, .ref h4, .ref h5, .ref h6, .ref h7])), (d3, .inl (K 0, 6, .inl (fun _ => 0))), (h4, .inr (4, [.ref h1, .ref h2, .ref h3, .ref d1, .ref d2, .ref d3])), (h1, .inr (1, [.ref a1, .ref a2, .ref a3, .ref a4, .ref a5, .ref a6, .int 0, .int 0]))] H := hP
          have hD : va_D A [(h0, .inr (0, [.ref h1, .ref h2, .ref h3, .ref h4, .ref h5, .ref h6, .ref h7])), (d3, .inl (K 0, 6, .inl (fun _ => 0))), (h4, .inr (4, [.ref h1, .ref h2, .ref h3, .ref d1, .ref d2, .ref d3])), (h1, .inr (1, [.ref a1, .ref a2, .ref a3, .ref a4, .ref a5, .ref a6, .int 0, .int 0]))] := hD
          refine lv_aload_n hx hb dX8_breaks_54 rfl (lv_at hl 0 rfl) ?_
          refine va_get (D := D) (ci := 0) (v := .ref h4) (C := RX8) (T := TX8) (N := 7) hx hb hts inlX8 hown hK hP 0 rfl rfl 3 (by decide) (hts _ xw2_5) (fun _ h9 => h9) rfl dX8_breaks_55 ?_
          refine lv_iload_n hx hb dX8_breaks_58 rfl (lv_at hl 1 rfl) ?_
          have hF := va_free (wc := [(h4, .inr (4, [.ref h1, .ref h2, .ref h3, .ref d1, .ref d2, .ref d3])), (h1, .inr (1, [.ref a1, .ref a2, .ref a3, .ref a4, .ref a5, .ref a6, .int 0, .int 0])), (d3, .inl (K 0, 6, .inl (fun _ => 0)))]) hD hS hA [2, 3, 1] rfl
          refine xk_i (w1 := fun (_ : Unit) => []) (wc := [(h4, .inr (4, [.ref h1, .ref h2, .ref h3, .ref d1, .ref d2, .ref d3])), (h1, .inr (1, [.ref a1, .ref a2, .ref a3, .ref a4, .ref a5, .ref a6, .int 0, .int 0])), (d3, .inl (K 0, 6, .inl (fun _ => 0)))]) (wr := [(h0, .inr (0, [.ref h1, .ref h2, .ref h3, .ref h4, .ref h5, .ref h6, .ref h7]))]) (va_runV (As := [.int p0]) (rest := []) ⟨hx, hb, hml, hown, hts⟩ (c_X4_breakingTeam l D K h4 h1 h2 h3 d1 d2 d3 a1 a2 a3 a4 a5 a6 H.size p0) (cwV 1 hts xg_RX8_X4_breakingTeam_343 rfl rfl rfl (by decide +kernel) ⟨Nat.le_of_ble_eq_true rfl, Nat.le_of_ble_eq_true rfl⟩) ⟨xPre.blind, va_recv hK hP (ci := 4) (q0 := 2) rfl rfl, xPre.call hE hS (hP.sub [2, 3, 1] rfl) (hD.sub [2, 3, 1] (by decide) rfl) hF⟩ rfl rfl hl.1 rfl (lv_room (Nat.le_of_ble_eq_true rfl)) dX8_breaks_59 ⟨Nat.le_of_ble_eq_true rfl, Nat.le_of_ble_eq_true rfl⟩) hP hD hS hF [2, 3, 1] [0] rfl rfl rfl (by decide) (fun r_26 u_25 H locs hw_27 hP hD hS => ?_)
          obtain rfl := hw_27
          have hP : va_P D xCl [(h0, .inr (0, [.ref h1, .ref h2, .ref h3, .ref h4, .ref h5, .ref h6, .ref h7]))] H := hP
          have hD : va_D A [(h0, .inr (0, [.ref h1, .ref h2, .ref h3, .ref h4, .ref h5, .ref h6, .ref h7]))] := hD
          refine lv_istore_n (lv' := [(3, .int (-1)), (0, .ref h0), (1, .int p0), (2, .int p1)]) hx hb dX8_breaks_62 rfl hl (by decide) rfl (fun ls hl => ?_)
          refine lv_iload_n hx hb dX8_breaks_63 rfl (lv_at hl 0 rfl) ?_
          refine lv_iconst (v := (-1)) hx hb dX8_breaks_64 (by decide) ?_
          refine lv_icmp_ne (tgt := 79) hx hb dX8_breaks_65 (by decide) (fun c_28 => absurd (by decide) c_28) (fun _ => ?_)
          obtain ⟨sa_29, hs_30⟩ := hE.1.2.2.2.2.1 (346, "fewer teams break") (List.mem_of_getElem? (i := 22) rfl)
          exact vx_throwSW (cls := "java/lang/IndexOutOfBoundsException") (names := ["java/lang/RuntimeException", "java/lang/Exception"]) (ic := 255) hx hb hst hown (by decide +kernel) (by decide +kernel) (hts _ xw31_10) (hts _ xw31_11) hs_30 (xat_IOB hE.1 _) xot_IOB hE.2.2.1 hE.2.2.2 hS (hl.1.trans hml.symm) dX8_breaks_68 dX8_breaks_71 dX8_breaks_72 dX8_breaks_75 dX8_breaks_78 (fun x hx9 => (hte x hx9).elim) (by decide) (Nat.le_of_ble_eq_true rfl) (Nat.le_of_ble_eq_true rfl) (Nat.le_of_ble_eq_true rfl) hlocks (fun t hW h1 h2 => ⟨(), trivial, Or.inr (Or.inr (Or.inr (Or.inr (Or.inl ⟨c_1, c_17, c_18, c_21, rfl⟩)))), Nat.le_trans hS.1 h1, fun q hq hn => (h2 q (Nat.lt_of_lt_of_le hq hS.1)).trans (hS.2.1 q hq hn)⟩) hS.2.2 (Nat.le_of_ble_eq_true rfl) (Nat.le_of_ble_eq_true rfl)
        · obtain ⟨sa_31, hs_32⟩ := hE.1.2.2.2.2.1 (341, "there is no such seed") (List.mem_of_getElem? (i := 21) rfl)
          exact vx_throwSW (cls := "java/lang/IndexOutOfBoundsException") (names := ["java/lang/RuntimeException", "java/lang/Exception"]) (ic := 255) hx hb hst hown (by decide +kernel) (by decide +kernel) (hts _ xw31_10) (hts _ xw31_11) hs_32 (xat_IOB hE.1 _) xot_IOB hE.2.2.1 hE.2.2.2 hS (hl.1.trans hml.symm) dX8_breaks_36 dX8_breaks_39 dX8_breaks_40 dX8_breaks_43 dX8_breaks_46 (fun x hx9 => (hte x hx9).elim) (by decide) (Nat.le_of_ble_eq_true rfl) (Nat.le_of_ble_eq_true rfl) (Nat.le_of_ble_eq_true rfl) hlocks (fun t hW h1 h2 => ⟨(), trivial, Or.inr (Or.inr (Or.inr (Or.inr (Or.inr (Or.inl ⟨c_1, c_17, c_18, c_21, rfl⟩))))), Nat.le_trans hS.1 h1, fun q hq hn => (h2 q (Nat.lt_of_lt_of_le hq hS.1)).trans (hS.2.1 q hq hn)⟩) hS.2.2 (Nat.le_of_ble_eq_true rfl) (Nat.le_of_ble_eq_true rfl)
    · refine lv_iload_n hx hb dX8_breaks_10 rfl (lv_at hl 2 rfl) ?_
      refine lv_bipush (v := 8) hx hb dX8_breaks_11 (by decide) ?_
      refine lv_icmp_eq (tgt := 27) hx hb dX8_breaks_13 (by decide) (fun c_33 => ?_) (fun c_33 => ?_)
      · refine lv_iload_n hx hb dX8_breaks_27 rfl (lv_at hl 1 rfl) ?_
        refine lv_if_lt (tgt := 36) hx hb dX8_breaks_28 (by decide) (fun c_34 => ?_) (fun c_34 => ?_)
        · obtain ⟨sa_35, hs_36⟩ := hE.1.2.2.2.2.1 (341, "there is no such seed") (List.mem_of_getElem? (i := 21) rfl)
          exact vx_throwSW (cls := "java/lang/IndexOutOfBoundsException") (names := ["java/lang/RuntimeException", "java/lang/Exception"]) (ic := 255) hx hb hst hown (by decide +kernel) (by decide +kernel) (hts _ xw31_10) (hts _ xw31_11) hs_36 (xat_IOB hE.1 _) xot_IOB hE.2.2.1 hE.2.2.2 hS (hl.1.trans hml.symm) dX8_breaks_36 dX8_breaks_39 dX8_breaks_40 dX8_breaks_43 dX8_breaks_46 (fun x hx9 => (hte x hx9).elim) (by decide) (Nat.le_of_ble_eq_true rfl) (Nat.le_of_ble_eq_true rfl) (Nat.le_of_ble_eq_true rfl) hlocks (fun t hW h1 h2 => ⟨(), trivial, Or.inr (Or.inr (Or.inr (Or.inr (Or.inr (Or.inr (Or.inl ⟨c_1, c_17, c_33, c_34, rfl⟩)))))), Nat.le_trans hS.1 h1, fun q hq hn => (h2 q (Nat.lt_of_lt_of_le hq hS.1)).trans (hS.2.1 q hq hn)⟩) hS.2.2 (Nat.le_of_ble_eq_true rfl) (Nat.le_of_ble_eq_true rfl)
        · refine lv_iload_n hx hb dX8_breaks_31 rfl (lv_at hl 1 rfl) ?_
          refine lv_iload_n hx hb dX8_breaks_32 rfl (lv_at hl 2 rfl) ?_
          refine lv_icmp_lt (tgt := 47) hx hb dX8_breaks_33 (by decide) (fun c_37 => ?_) (fun c_37 => ?_)
          · refine lv_aload_n hx hb dX8_breaks_47 rfl (lv_at hl 0 rfl) ?_
            refine va_get (D := D) (ci := 0) (v := .ref h4) (C := RX8) (T := TX8) (N := 7) hx hb hts inlX8 hown hK hP 0 rfl rfl 3 (by decide) (hts _ xw2_5) (fun _ h9 => h9) rfl dX8_breaks_48 ?_
            have hF := va_free (wc := [(h4, .inr (4, [.ref h1, .ref h2, .ref h3, .ref d1, .ref d2, .ref d3])), (h1, .inr (1, [.ref a1, .ref a2, .ref a3, .ref a4, .ref a5, .ref a6, .int 0, .int 0]))]) hD hS hA [1, 2] rfl
            refine xk_v (w1 := fun (_ : Unit) => [(h4, .inr (4, [.ref h1, .ref h2, .ref h3, .ref d1, .ref d2, .ref d3])), (h1, .inr (1, [.ref a1, .ref a2, .ref a3, .ref a4, .ref a5, .ref a6, .int 0, .int 0]))]) (wc := [(h4, .inr (4, [.ref h1, .ref h2, .ref h3, .ref d1, .ref d2, .ref d3])), (h1, .inr (1, [.ref a1, .ref a2, .ref a3, .ref a4, .ref a5, .ref a6, .int 0, .int 0]))]) (wr := [(h0, .inr (0, [.ref h1, .ref h2, .ref h3, .ref h4, .ref h5, .ref h6, .ref h7])), (d3, .inl (K 0, 6, .inl (fun _ => 0)))]) (va_runV (As := []) (rest := []) ⟨hx, hb, hml, hown, hts⟩ (c_X4_sort l D K h4 h1 h2 h3 d1 d2 d3 a1 a2 a3 a4 a5 a6 H.size) (cwV 0 hts xg_RX8_X4_sort_256 rfl rfl rfl (by decide +kernel) ⟨Nat.le_of_ble_eq_true rfl, Nat.le_of_ble_eq_true rfl⟩) ⟨xPre.blind, va_recv hK hP (ci := 4) (q0 := 1) rfl rfl, xPre.call hE hS (hP.sub [1, 2] rfl) (hD.sub [1, 2] (by decide) rfl) hF⟩ rfl rfl hl.1 rfl (lv_room (Nat.le_of_ble_eq_true rfl)) dX8_breaks_51 ⟨Nat.le_of_ble_eq_true rfl, Nat.le_of_ble_eq_true rfl⟩) hP hD hS hF [1, 2] [0, 3] rfl rfl rfl (by decide) (fun u_38 H locs hw_40 hP hD hS => ?_)
            have hP : va_P D xCl [(h0, .inr (0, [.ref h1, .ref h2, .ref h3, .ref h4, .ref h5, .ref h6, .ref h7])), (d3, .inl (K 0, 6, .inl (fun _ => 0))), (h4, .inr (4, [.ref h1, .ref h2, .ref h3, .ref d1, .ref d2, .ref d3])), (h1, .inr (1, [.ref a1, .ref a2, .ref a3, .ref a4, .ref a5, .ref a6, .int 0, .int 0]))] H := hP
            have hD : va_D A [(h0, .inr (0, [.ref h1, .ref h2, .ref h3, .ref h4, .ref h5, .ref h6, .ref h7])), (d3, .inl (K 0, 6, .inl (fun _ => 0))), (h4, .inr (4, [.ref h1, .ref h2, .ref h3, .ref d1, .ref d2, .ref d3])), (h1, .inr (1, [.ref a1, .ref a2, .ref a3, .ref a4, .ref a5, .ref a6, .int 0, .int 0]))] := hD
            refine lv_aload_n hx hb dX8_breaks_54 rfl (lv_at hl 0 rfl) ?_
            refine va_get (D := D) (ci := 0) (v := .ref h4) (C := RX8) (T := TX8) (N := 7) hx hb hts inlX8 hown hK hP 0 rfl rfl 3 (by decide) (hts _ xw2_5) (fun _ h9 => h9) rfl dX8_breaks_55 ?_
            refine lv_iload_n hx hb dX8_breaks_58 rfl (lv_at hl 1 rfl) ?_
            have hF := va_free (wc := [(h4, .inr (4, [.ref h1, .ref h2, .ref h3, .ref d1, .ref d2, .ref d3])), (h1, .inr (1, [.ref a1, .ref a2, .ref a3, .ref a4, .ref a5, .ref a6, .int 0, .int 0])), (d3, .inl (K 0, 6, .inl (fun _ => 0)))]) hD hS hA [2, 3, 1] rfl
            refine xk_i (w1 := fun (_ : Unit) => []) (wc := [(h4, .inr (4, [.ref h1, .ref h2, .ref h3, .ref d1, .ref d2, .ref d3])), (h1, .inr (1, [.ref a1, .ref a2, .ref a3, .ref a4, .ref a5, .ref a6, .int 0, .int 0])), (d3, .inl (K 0, 6, .inl (fun _ => 0)))]) (wr := [(h0, .inr (0, [.ref h1, .ref h2, .ref h3, .ref h4, .ref h5, .ref h6, .ref h7]))]) (va_runV (As := [.int p0]) (rest := []) ⟨hx, hb, hml, hown, hts⟩ (c_X4_breakingTeam l D K h4 h1 h2 h3 d1 d2 d3 a1 a2 a3 a4 a5 a6 H.size p0) (cwV 1 hts xg_RX8_X4_breakingTeam_343 rfl rfl rfl (by decide +kernel) ⟨Nat.le_of_ble_eq_true rfl, Nat.le_of_ble_eq_true rfl⟩) ⟨xPre.blind, va_recv hK hP (ci := 4) (q0 := 2) rfl rfl, xPre.call hE hS (hP.sub [2, 3, 1] rfl) (hD.sub [2, 3, 1] (by decide) rfl) hF⟩ rfl rfl hl.1 rfl (lv_room (Nat.le_of_ble_eq_true rfl)) dX8_breaks_59 ⟨Nat.le_of_ble_eq_true rfl, Nat.le_of_ble_eq_true rfl⟩) hP hD hS hF [2, 3, 1] [0] rfl rfl rfl (by decide) (fun r_42 u_41 H locs hw_43 hP hD hS => ?_)
            obtain rfl := hw_43
            have hP : va_P D xCl [(h0, .inr (0, [.ref h1, .ref h2, .ref h3, .ref h4, .ref h5, .ref h6, .ref h7]))] H := hP
            have hD : va_D A [(h0, .inr (0, [.ref h1, .ref h2, .ref h3, .ref h4, .ref h5, .ref h6, .ref h7]))] := hD
            refine lv_istore_n (lv' := [(3, .int (-1)), (0, .ref h0), (1, .int p0), (2, .int p1)]) hx hb dX8_breaks_62 rfl hl (by decide) rfl (fun ls hl => ?_)
            refine lv_iload_n hx hb dX8_breaks_63 rfl (lv_at hl 0 rfl) ?_
            refine lv_iconst (v := (-1)) hx hb dX8_breaks_64 (by decide) ?_
            refine lv_icmp_ne (tgt := 79) hx hb dX8_breaks_65 (by decide) (fun c_44 => absurd (by decide) c_44) (fun _ => ?_)
            obtain ⟨sa_45, hs_46⟩ := hE.1.2.2.2.2.1 (346, "fewer teams break") (List.mem_of_getElem? (i := 22) rfl)
            exact vx_throwSW (cls := "java/lang/IndexOutOfBoundsException") (names := ["java/lang/RuntimeException", "java/lang/Exception"]) (ic := 255) hx hb hst hown (by decide +kernel) (by decide +kernel) (hts _ xw31_10) (hts _ xw31_11) hs_46 (xat_IOB hE.1 _) xot_IOB hE.2.2.1 hE.2.2.2 hS (hl.1.trans hml.symm) dX8_breaks_68 dX8_breaks_71 dX8_breaks_72 dX8_breaks_75 dX8_breaks_78 (fun x hx9 => (hte x hx9).elim) (by decide) (Nat.le_of_ble_eq_true rfl) (Nat.le_of_ble_eq_true rfl) (Nat.le_of_ble_eq_true rfl) hlocks (fun t hW h1 h2 => ⟨(), trivial, Or.inr (Or.inr (Or.inr (Or.inr (Or.inr (Or.inr (Or.inr (Or.inl ⟨c_1, c_17, c_33, c_34, c_37, rfl⟩))))))), Nat.le_trans hS.1 h1, fun q hq hn => (h2 q (Nat.lt_of_lt_of_le hq hS.1)).trans (hS.2.1 q hq hn)⟩) hS.2.2 (Nat.le_of_ble_eq_true rfl) (Nat.le_of_ble_eq_true rfl)
          · obtain ⟨sa_47, hs_48⟩ := hE.1.2.2.2.2.1 (341, "there is no such seed") (List.mem_of_getElem? (i := 21) rfl)
            exact vx_throwSW (cls := "java/lang/IndexOutOfBoundsException") (names := ["java/lang/RuntimeException", "java/lang/Exception"]) (ic := 255) hx hb hst hown (by decide +kernel) (by decide +kernel) (hts _ xw31_10) (hts _ xw31_11) hs_48 (xat_IOB hE.1 _) xot_IOB hE.2.2.1 hE.2.2.2 hS (hl.1.trans hml.symm) dX8_breaks_36 dX8_breaks_39 dX8_breaks_40 dX8_breaks_43 dX8_breaks_46 (fun x hx9 => (hte x hx9).elim) (by decide) (Nat.le_of_ble_eq_true rfl) (Nat.le_of_ble_eq_true rfl) (Nat.le_of_ble_eq_true rfl) hlocks (fun t hW h1 h2 => ⟨(), trivial, Or.inr (Or.inr (Or.inr (Or.inr (Or.inr (Or.inr (Or.inr (Or.inr (Or.inl ⟨c_1, c_17, c_33, c_34, c_37, rfl⟩)))))))), Nat.le_trans hS.1 h1, fun q hq hn => (h2 q (Nat.lt_of_lt_of_le hq hS.1)).trans (hS.2.1 q hq hn)⟩) hS.2.2 (Nat.le_of_ble_eq_true rfl) (Nat.le_of_ble_eq_true rfl)
      · obtain ⟨sa_49, hs_50⟩ := hE.1.2.2.2.2.1 (339, "the size is neither 2 nor 4 nor 8") (List.mem_of_getElem? (i := 20) rfl)
        exact vx_throwSW (cls := "java/lang/IllegalArgumentException") (names := ["java/lang/RuntimeException", "java/lang/Exception"]) (ic := 72) hx hb hst hown (by decide +kernel) (by decide +kernel) (hts _ xw7_10) (hts _ xw7_11) hs_50 (xat_IAE hE.1 _) xot_IAE hE.2.2.1 hE.2.2.2 hS (hl.1.trans hml.symm) dX8_breaks_16 dX8_breaks_19 dX8_breaks_20 dX8_breaks_23 dX8_breaks_26 (fun x hx9 => (hte x hx9).elim) (by decide) (Nat.le_of_ble_eq_true rfl) (Nat.le_of_ble_eq_true rfl) (Nat.le_of_ble_eq_true rfl) hlocks (fun t hW h1 h2 => ⟨(), trivial, Or.inr (Or.inr (Or.inr (Or.inr (Or.inr (Or.inr (Or.inr (Or.inr (Or.inr ⟨c_1, c_17, c_33, rfl⟩)))))))), Nat.le_trans hS.1 h1, fun q hq hn => (h2 q (Nat.lt_of_lt_of_le hq hS.1)).trans (hS.2.1 q hq hn)⟩) hS.2.2 (Nat.le_of_ble_eq_true rfl) (Nat.le_of_ble_eq_true rfl)
set_option maxHeartbeats 4000000 in
set_option maxRecDepth 100000 in
theorem c_X8_people (l : Launch) (hst : l.stackTraces = false) (D : va_G) (K : Nat → ClassId) (h0 h1 h2 h3 h4 h5 h6 h7 a1 a2 a3 a4 a5 a6 : Nat) (sz : Nat) (p0 : Int32) : vx_Met l yX8_people [.code yX8_people cX8_people 2 (some .int)] ({ frames := 6, cells := 1, slots := 6, locals := 82 }) (xPre D K [.ref h0, .int p0] [(h0, .inr (0, [.ref h1, .ref h2, .ref h3, .ref h4, .ref h5, .ref h6, .ref h7])), (h1, .inr (1, [.ref a1, .ref a2, .ref a3, .ref a4, .ref a5, .ref a6, .int 0, .int 0]))] sz) (va_Qi (fun (r : Int32) (u : Unit) => (p0 = 116 ∧ r = 0) ∨ (¬ p0 = 116 ∧ p0 = 106 ∧ r = 0)) (fun u t => xW D (va_A [(h0, .inr (0, [.ref h1, .ref h2, .ref h3, .ref h4, .ref h5, .ref h6, .ref h7])), (h1, .inr (1, [.ref a1, .ref a2, .ref a3, .ref a4, .ref a5, .ref a6, .int 0, .int 0]))] sz) ((fun (_ : Unit) => []) u) t) (va_A [(h0, .inr (0, [.ref h1, .ref h2, .ref h3, .ref h4, .ref h5, .ref h6, .ref h7])), (h1, .inr (1, [.ref a1, .ref a2, .ref a3, .ref a4, .ref a5, .ref a6, .int 0, .int 0]))] sz)) (vx_X (S := Unit) (fun _ => True) (fun E _ _ => (fun E => ¬ p0 = 116 ∧ ¬ p0 = 106 ∧ E = "java/lang/IllegalArgumentException") E) (va_A [(h0, .inr (0, [.ref h1, .ref h2, .ref h3, .ref h4, .ref h5, .ref h6, .ref h7])), (h1, .inr (1, [.ref a1, .ref a2, .ref a3, .ref a4, .ref a5, .ref a6, .int 0, .int 0]))] sz)) 1 6 (va_A [(h0, .inr (0, [.ref h1, .ref h2, .ref h3, .ref h4, .ref h5, .ref h6, .ref h7])), (h1, .inr (1, [.ref a1, .ref a2, .ref a3, .ref a4, .ref a5, .ref a6, .int 0, .int 0]))] sz) := by
  refine vx_ofW (cc := cX8_people) (maxL := 2) (ret := (some .int)) (by decide) rfl ?_
  intro p e s m args below meth c s₁ B hml hte hv
  obtain ⟨rfl, hsz, hP, hD0, hE⟩ := hv
  have hx := B.exec
  have hb := B.bytes
  have hr := B.returns
  have hlocks := B.notSynchronized
  have hts := hE.1.ts ([.ref h0, .int p0] : List Value).toArray
  have hnt := hE.1.nt ([.ref h0, .int p0] : List Value).toArray
  have hK := hE.2.1
  have hown : s.vm.findClass RX8 = some m.cls := findClass_of_methodNamed B.named
  subst hsz
  have hD := hD0.self (sz := s.heap.size)
  generalize hAe : va_A [(h0, .inr (0, [.ref h1, .ref h2, .ref h3, .ref h4, .ref h5, .ref h6, .ref h7])), (h1, .inr (1, [.ref a1, .ref a2, .ref a3, .ref a4, .ref a5, .ref a6, .int 0, .int 0]))] s.heap.size = A at hD hE ⊢
  have hA : ∀ q : Nat, s.heap.size ≤ q → A q := fun q h => by rw [← hAe]; exact Or.inr h
  have hl := lv_entry ([.ref h0, .int p0]) (n := 2) (Nat.le_of_ble_eq_true rfl)
  rw [lg_entry_eq]
  generalize (lg_sl ([.ref h0, .int p0]) ++ List.replicate (2 - (lg_sl ([.ref h0, .int p0])).length) Slot.unset).toArray = ls at hl ⊢
  have hl : lv_has ls 2 [(0, .ref h0), (1, .int p0)] := hl
  generalize hH : s.heap = H at hP ⊢
  have hS : va_S A s.heap H [] := by rw [← hH]; exact va_S.rf
  refine lv_iload_n hx hb dX8_people_0 rfl (lv_at hl 1 rfl) ?_
  refine lv_bipush (v := 116) hx hb dX8_people_1 (by decide) ?_
  refine lv_icmp_eq (tgt := 23) hx hb dX8_people_3 (by decide) (fun c_1 => ?_) (fun c_1 => ?_)
  · refine lv_iload_n hx hb dX8_people_23 rfl (lv_at hl 1 rfl) ?_
    refine lv_bipush (v := 116) hx hb dX8_people_24 (by decide) ?_
    refine lv_icmp_ne (tgt := 39) hx hb dX8_people_26 (by decide) (fun c_2 => absurd c_1 c_2) (fun _ => ?_)
    refine lv_aload_n hx hb dX8_people_29 rfl (lv_at hl 0 rfl) ?_
    refine va_get (D := D) (ci := 0) (v := .ref h1) (C := RX8) (T := TX8) (N := 7) hx hb hts inlX8 hown hK hP 0 rfl rfl 0 (by decide) (hts _ xw1_17) (fun _ h9 => h9) rfl dX8_people_30 ?_
    refine va_getN (D := D) (ci := 1) (v := .int 0) (C := RX5) (T := TX5) (N := 8) hx hb hts inlX5 hown hK hP 1 rfl rfl 6 (by decide) (hnt _ xn8) (fun _ h9 => h9) rfl dX8_people_33 ?_
    refine lv_goto (tgt := 46) hx hb dX8_people_36 (by decide) ?_
    have hP9 : va_P D xCl [] H := hP.sub [] rfl
    have hD9 : va_D A [] := hD.sub [] (by decide) rfl
    refine W.widen (k := 1) (n := 6) (Nat.le_of_ble_eq_true rfl) (Nat.le_of_ble_eq_true rfl) ?_
    refine vx_ret ?_
    exact W.iret (v := 0) hx hb hr (fun t ht hW => ⟨⟨0, (), rfl, Or.inl ⟨c_1, rfl⟩, by rw [ht]; exact hP9, hD9⟩, hS.F ht⟩) hS.2.2 dX8_people_46
  · refine lv_iload_n hx hb dX8_people_6 rfl (lv_at hl 1 rfl) ?_
    refine lv_bipush (v := 106) hx hb dX8_people_7 (by decide) ?_
    refine lv_icmp_eq (tgt := 23) hx hb dX8_people_9 (by decide) (fun c_3 => ?_) (fun c_3 => ?_)
    · refine lv_iload_n hx hb dX8_people_23 rfl (lv_at hl 1 rfl) ?_
      refine lv_bipush (v := 116) hx hb dX8_people_24 (by decide) ?_
      refine lv_icmp_ne (tgt := 39) hx hb dX8_people_26 (by decide) (fun _ => ?_) (fun c_4 => absurd c_4 c_1)
      refine lv_aload_n hx hb dX8_people_39 rfl (lv_at hl 0 rfl) ?_
      refine va_get (D := D) (ci := 0) (v := .ref h1) (C := RX8) (T := TX8) (N := 7) hx hb hts inlX8 hown hK hP 0 rfl rfl 0 (by decide) (hts _ xw1_17) (fun _ h9 => h9) rfl dX8_people_40 ?_
      refine va_getN (D := D) (ci := 1) (v := .int 0) (C := RX5) (T := TX5) (N := 8) hx hb hts inlX5 hown hK hP 1 rfl rfl 7 (by decide) (hnt _ xn11) (fun _ h9 => h9) rfl dX8_people_43 ?_
      have hP9 : va_P D xCl [] H := hP.sub [] rfl
      have hD9 : va_D A [] := hD.sub [] (by decide) rfl
      refine W.widen (k := 1) (n := 6) (Nat.le_of_ble_eq_true rfl) (Nat.le_of_ble_eq_true rfl) ?_
      refine vx_ret ?_
      exact W.iret (v := 0) hx hb hr (fun t ht hW => ⟨⟨0, (), rfl, Or.inr ⟨c_1, c_3, rfl⟩, by rw [ht]; exact hP9, hD9⟩, hS.F ht⟩) hS.2.2 dX8_people_46
    · obtain ⟨sa_5, hs_6⟩ := hE.1.2.2.2.2.1 (348, "there is no such kind") (List.mem_of_getElem? (i := 23) rfl)
      exact vx_throwSW (cls := "java/lang/IllegalArgumentException") (names := ["java/lang/RuntimeException", "java/lang/Exception"]) (ic := 72) hx hb hst hown (by decide +kernel) (by decide +kernel) (hts _ xw7_10) (hts _ xw7_11) hs_6 (xat_IAE hE.1 _) xot_IAE hE.2.2.1 hE.2.2.2 hS (hl.1.trans hml.symm) dX8_people_12 dX8_people_15 dX8_people_16 dX8_people_19 dX8_people_22 (fun x hx9 => (hte x hx9).elim) (by decide) (Nat.le_of_ble_eq_true rfl) (Nat.le_of_ble_eq_true rfl) (Nat.le_of_ble_eq_true rfl) hlocks (fun t hW h1 h2 => ⟨(), trivial, ⟨c_1, c_3, rfl⟩, Nat.le_trans hS.1 h1, fun q hq hn => (h2 q (Nat.lt_of_lt_of_le hq hS.1)).trans (hS.2.1 q hq hn)⟩) hS.2.2 (Nat.le_of_ble_eq_true rfl) (Nat.le_of_ble_eq_true rfl)
set_option maxHeartbeats 4000000 in
set_option maxRecDepth 100000 in
theorem c_X8_scores (l : Launch) (D : va_G) (K : Nat → ClassId) (h0 h1 h2 h3 h4 h5 h6 h7 b1 b2 b3 b4 : Nat) (sz : Nat) : Met l yX8_scores [.code yX8_scores cX8_scores 1 (some .long)] ({ frames := 0, cells := 0, slots := 0, locals := 0 }) (xPre D K [.ref h0] [(h0, .inr (0, [.ref h1, .ref h2, .ref h3, .ref h4, .ref h5, .ref h6, .ref h7])), (h2, .inr (2, [.ref b1, .ref b2, .ref b3, .ref b4, .long 0]))] sz) (va_Ql (fun (r : Int64) (u : Unit) => r = 0) (fun u t => xW D (va_A [(h0, .inr (0, [.ref h1, .ref h2, .ref h3, .ref h4, .ref h5, .ref h6, .ref h7])), (h2, .inr (2, [.ref b1, .ref b2, .ref b3, .ref b4, .long 0]))] sz) ((fun (_ : Unit) => []) u) t) (va_A [(h0, .inr (0, [.ref h1, .ref h2, .ref h3, .ref h4, .ref h5, .ref h6, .ref h7])), (h2, .inr (2, [.ref b1, .ref b2, .ref b3, .ref b4, .long 0]))] sz)) 0 0 (va_A [(h0, .inr (0, [.ref h1, .ref h2, .ref h3, .ref h4, .ref h5, .ref h6, .ref h7])), (h2, .inr (2, [.ref b1, .ref b2, .ref b3, .ref b4, .long 0]))] sz) := by
  refine Met.ofW (cc := cX8_scores) (maxL := 1) (ret := (some .long)) (by decide) rfl ?_
  intro p e s m args below meth c s₁ B hml hv
  obtain ⟨rfl, hsz, hP, hD0, hE⟩ := hv
  have hx := B.exec
  have hb := B.bytes
  have hr := B.returns
  have hlocks := B.notSynchronized
  have hts := hE.1.ts ([.ref h0] : List Value).toArray
  have hnt := hE.1.nt ([.ref h0] : List Value).toArray
  have hK := hE.2.1
  have hown : s.vm.findClass RX8 = some m.cls := findClass_of_methodNamed B.named
  subst hsz
  have hD := hD0.self (sz := s.heap.size)
  generalize hAe : va_A [(h0, .inr (0, [.ref h1, .ref h2, .ref h3, .ref h4, .ref h5, .ref h6, .ref h7])), (h2, .inr (2, [.ref b1, .ref b2, .ref b3, .ref b4, .long 0]))] s.heap.size = A at hD hE ⊢
  have hA : ∀ q : Nat, s.heap.size ≤ q → A q := fun q h => by rw [← hAe]; exact Or.inr h
  have hl := lv_entry ([.ref h0]) (n := 1) (Nat.le_of_ble_eq_true rfl)
  rw [lg_entry_eq]
  generalize (lg_sl ([.ref h0]) ++ List.replicate (1 - (lg_sl ([.ref h0])).length) Slot.unset).toArray = ls at hl ⊢
  have hl : lv_has ls 1 [(0, .ref h0)] := hl
  generalize hH : s.heap = H at hP ⊢
  have hS : va_S A s.heap H [] := by rw [← hH]; exact va_S.rf
  refine lv_aload_n hx hb dX8_scores_0 rfl (lv_at hl 0 rfl) ?_
  refine va_get (D := D) (ci := 0) (v := .ref h2) (C := RX8) (T := TX8) (N := 7) hx hb hts inlX8 hown hK hP 0 rfl rfl 1 (by decide) (hts _ xw1_21) (fun _ h9 => h9) rfl dX8_scores_1 ?_
  refine va_getN (D := D) (ci := 2) (v := .long 0) (C := RX7) (T := TX7) (N := 5) hx hb hts inlX7 hown hK hP 1 rfl rfl 4 (by decide) (hnt _ xn19) (fun _ h9 => h9) rfl dX8_scores_4 ?_
  have hP9 : va_P D xCl [] H := hP.sub [] rfl
  have hD9 : va_D A [] := hD.sub [] (by decide) rfl
  refine W.widen (k := 0) (n := 0) (Nat.le_of_ble_eq_true rfl) (Nat.le_of_ble_eq_true rfl) ?_
  exact W.lret (v := 0) hx hb hr (fun t ht hW => ⟨⟨0, (), rfl, rfl, by rw [ht]; exact hP9, hD9⟩, hS.F ht⟩) hS.2.2 dX8_scores_7
set_option maxHeartbeats 4000000 in
set_option maxRecDepth 100000 in
theorem c_X1_roomCount (l : Launch) (D : va_G) (K : Nat → ClassId) (h3 h1 c1 : Nat) (sz : Nat) : Met l yX1_roomCount [.code yX1_roomCount cX1_roomCount 3 (some .int)] ({ frames := 0, cells := 0, slots := 0, locals := 0 }) (xPre D K [.ref h3] [(h3, .inr (3, [.ref h1, .ref c1, .int 0]))] sz) (va_Qi (fun (r : Int32) (u : Unit) => r = 0) (fun u t => xW D (va_A [(h3, .inr (3, [.ref h1, .ref c1, .int 0]))] sz) ((fun (_ : Unit) => []) u) t) (va_A [(h3, .inr (3, [.ref h1, .ref c1, .int 0]))] sz)) 0 0 (va_A [(h3, .inr (3, [.ref h1, .ref c1, .int 0]))] sz) := by
  refine Met.ofW (cc := cX1_roomCount) (maxL := 3) (ret := (some .int)) (by decide) rfl ?_
  intro p e s m args below meth c s₁ B hml hv
  obtain ⟨rfl, hsz, hP, hD0, hE⟩ := hv
  have hx := B.exec
  have hb := B.bytes
  have hr := B.returns
  have hlocks := B.notSynchronized
  have hts := hE.1.ts ([.ref h3] : List Value).toArray
  have hnt := hE.1.nt ([.ref h3] : List Value).toArray
  have hK := hE.2.1
  have hown : s.vm.findClass RX1 = some m.cls := findClass_of_methodNamed B.named
  subst hsz
  have hD := hD0.self (sz := s.heap.size)
  generalize hAe : va_A [(h3, .inr (3, [.ref h1, .ref c1, .int 0]))] s.heap.size = A at hD hE ⊢
  have hA : ∀ q : Nat, s.heap.size ≤ q → A q := fun q h => by rw [← hAe]; exact Or.inr h
  have hl := lv_entry ([.ref h3]) (n := 3) (Nat.le_of_ble_eq_true rfl)
  rw [lg_entry_eq]
  generalize (lg_sl ([.ref h3]) ++ List.replicate (3 - (lg_sl ([.ref h3])).length) Slot.unset).toArray = ls at hl ⊢
  have hl : lv_has ls 3 [(0, .ref h3)] := hl
  generalize hH : s.heap = H at hP ⊢
  have hS : va_S A s.heap H [] := by rw [← hH]; exact va_S.rf
  refine lv_iconst (v := 0) hx hb dX1_roomCount_0 (by decide) ?_
  refine lv_istore_n (lv' := [(1, .int 0), (0, .ref h3)]) hx hb dX1_roomCount_1 rfl hl (by decide) rfl (fun ls hl => ?_)
  refine lv_iconst (v := 0) hx hb dX1_roomCount_2 (by decide) ?_
  refine lv_istore_n (lv' := [(2, .int 0), (1, .int 0), (0, .ref h3)]) hx hb dX1_roomCount_3 rfl hl (by decide) rfl (fun ls hl => ?_)
  refine lv_iload_n hx hb dX1_roomCount_4 rfl (lv_at hl 0 rfl) ?_
  refine lv_aload_n hx hb dX1_roomCount_5 rfl (lv_at hl 2 rfl) ?_
  refine va_get (D := D) (ci := 3) (v := .int 0) (C := RX1) (T := TX1) (N := 3) hx hb hts inlX1 hown hK hP 0 rfl rfl 2 (by decide) (hts _ xw13_8) (fun _ h9 => h9) rfl dX1_roomCount_6 ?_
  refine lv_icmp_ge (tgt := 30) hx hb dX1_roomCount_9 (by decide) (fun _ => ?_) (fun c_1 => absurd (by decide) c_1)
  refine lv_iload_n hx hb dX1_roomCount_30 rfl (lv_at hl 1 rfl) ?_
  have hP9 : va_P D xCl [] H := hP.sub [] rfl
  have hD9 : va_D A [] := hD.sub [] (by decide) rfl
  refine W.widen (k := 0) (n := 0) (Nat.le_of_ble_eq_true rfl) (Nat.le_of_ble_eq_true rfl) ?_
  exact W.iret (v := 0) hx hb hr (fun t ht hW => ⟨⟨0, (), rfl, rfl, by rw [ht]; exact hP9, hD9⟩, hS.F ht⟩) hS.2.2 dX1_roomCount_31
set_option maxHeartbeats 4000000 in
set_option maxRecDepth 100000 in
theorem c_X8_meanPenalty (l : Launch) (hst : l.stackTraces = false) (D : va_G) (K : Nat → ClassId) (h0 h1 h2 h3 h4 h5 h6 h7 c1 : Nat) (sz : Nat) : vx_Met l yX8_meanPenalty [.code yX8_meanPenalty cX8_meanPenalty 2 (some .double)] ({ frames := 6, cells := 1, slots := 6, locals := 82 }) (xPre D K [.ref h0] [(h0, .inr (0, [.ref h1, .ref h2, .ref h3, .ref h4, .ref h5, .ref h6, .ref h7])), (h3, .inr (3, [.ref h1, .ref c1, .int 0]))] sz) (va_Qd (fun (r : UInt64) (u : Unit) => False) (fun u t => xW D (va_A [(h0, .inr (0, [.ref h1, .ref h2, .ref h3, .ref h4, .ref h5, .ref h6, .ref h7])), (h3, .inr (3, [.ref h1, .ref c1, .int 0]))] sz) ((fun (_ : Unit) => []) u) t) (va_A [(h0, .inr (0, [.ref h1, .ref h2, .ref h3, .ref h4, .ref h5, .ref h6, .ref h7])), (h3, .inr (3, [.ref h1, .ref c1, .int 0]))] sz)) (vx_X (S := Unit) (fun _ => True) (fun E _ _ => (fun E => E = "java/lang/ArithmeticException") E) (va_A [(h0, .inr (0, [.ref h1, .ref h2, .ref h3, .ref h4, .ref h5, .ref h6, .ref h7])), (h3, .inr (3, [.ref h1, .ref c1, .int 0]))] sz)) 1 6 (va_A [(h0, .inr (0, [.ref h1, .ref h2, .ref h3, .ref h4, .ref h5, .ref h6, .ref h7])), (h3, .inr (3, [.ref h1, .ref c1, .int 0]))] sz) := by
  refine vx_ofW (cc := cX8_meanPenalty) (maxL := 2) (ret := (some .double)) (by decide) rfl ?_
  intro p e s m args below meth c s₁ B hml hte hv
  obtain ⟨rfl, hsz, hP, hD0, hE⟩ := hv
  have hx := B.exec
  have hb := B.bytes
  have hr := B.returns
  have hlocks := B.notSynchronized
  have hts := hE.1.ts ([.ref h0] : List Value).toArray
  have hnt := hE.1.nt ([.ref h0] : List Value).toArray
  have hK := hE.2.1
  have hown : s.vm.findClass RX8 = some m.cls := findClass_of_methodNamed B.named
  subst hsz
  have hD := hD0.self (sz := s.heap.size)
  generalize hAe : va_A [(h0, .inr (0, [.ref h1, .ref h2, .ref h3, .ref h4, .ref h5, .ref h6, .ref h7])), (h3, .inr (3, [.ref h1, .ref c1, .int 0]))] s.heap.size = A at hD hE ⊢
  have hA : ∀ q : Nat, s.heap.size ≤ q → A q := fun q h => by rw [← hAe]; exact Or.inr h
  have hl := lv_entry ([.ref h0]) (n := 2) (Nat.le_of_ble_eq_true rfl)
  rw [lg_entry_eq]
  generalize (lg_sl ([.ref h0]) ++ List.replicate (2 - (lg_sl ([.ref h0])).length) Slot.unset).toArray = ls at hl ⊢
  have hl : lv_has ls 2 [(0, .ref h0)] := hl
  generalize hH : s.heap = H at hP ⊢
  have hS : va_S A s.heap H [] := by rw [← hH]; exact va_S.rf
  refine lv_aload_n hx hb dX8_meanPenalty_0 rfl (lv_at hl 0 rfl) ?_
  refine va_get (D := D) (ci := 0) (v := .ref h3) (C := RX8) (T := TX8) (N := 7) hx hb hts inlX8 hown hK hP 0 rfl rfl 2 (by decide) (hts _ xw2_1) (fun _ h9 => h9) rfl dX8_meanPenalty_1 ?_
  have hF := va_free (wc := [(h3, .inr (3, [.ref h1, .ref c1, .int 0]))]) hD hS hA [1] rfl
  refine xk_i (w1 := fun (_ : Unit) => []) (wc := [(h3, .inr (3, [.ref h1, .ref c1, .int 0]))]) (wr := [(h0, .inr (0, [.ref h1, .ref h2, .ref h3, .ref h4, .ref h5, .ref h6, .ref h7]))]) (va_runV (As := []) (rest := []) ⟨hx, hb, hml, hown, hts⟩ (c_X1_roomCount l D K h3 h1 c1 H.size) (cwV 0 hts xg_RX8_X1_roomCount_354 rfl rfl rfl (by decide +kernel) ⟨Nat.le_of_ble_eq_true rfl, Nat.le_of_ble_eq_true rfl⟩) ⟨xPre.blind, va_recv hK hP (ci := 3) (q0 := 1) rfl rfl, xPre.call hE hS (hP.sub [1] rfl) (hD.sub [1] (by decide) rfl) hF⟩ rfl rfl hl.1 rfl (lv_room (Nat.le_of_ble_eq_true rfl)) dX8_meanPenalty_4 ⟨Nat.le_of_ble_eq_true rfl, Nat.le_of_ble_eq_true rfl⟩) hP hD hS hF [1] [0] rfl rfl rfl (by decide) (fun r_2 u_1 H locs hw_3 hP hD hS => ?_)
  obtain rfl := hw_3
  have hP : va_P D xCl [(h0, .inr (0, [.ref h1, .ref h2, .ref h3, .ref h4, .ref h5, .ref h6, .ref h7]))] H := hP
  have hD : va_D A [(h0, .inr (0, [.ref h1, .ref h2, .ref h3, .ref h4, .ref h5, .ref h6, .ref h7]))] := hD
  refine lv_istore_n (lv' := [(1, .int 0), (0, .ref h0)]) hx hb dX8_meanPenalty_7 rfl hl (by decide) rfl (fun ls hl => ?_)
  refine lv_iload_n hx hb dX8_meanPenalty_8 rfl (lv_at hl 0 rfl) ?_
  refine lv_if_ne (tgt := 23) hx hb dX8_meanPenalty_9 (by decide) (fun c_4 => absurd (by decide) c_4) (fun _ => ?_)
  obtain ⟨sa_5, hs_6⟩ := hE.1.2.2.2.2.1 (359, "there are no rooms") (List.mem_of_getElem? (i := 24) rfl)
  exact vx_throwSW (cls := "java/lang/ArithmeticException") (names := ["java/lang/RuntimeException", "java/lang/Exception"]) (ic := 361) hx hb hst hown (by decide +kernel) (by decide +kernel) (hts _ xw41_12) (hts _ xw41_13) hs_6 (xat_ARE hE.1 _) xot_ARE hE.2.2.1 hE.2.2.2 hS (hl.1.trans hml.symm) dX8_meanPenalty_12 dX8_meanPenalty_15 dX8_meanPenalty_16 dX8_meanPenalty_19 dX8_meanPenalty_22 (fun x hx9 => (hte x hx9).elim) (by decide) (Nat.le_of_ble_eq_true rfl) (Nat.le_of_ble_eq_true rfl) (Nat.le_of_ble_eq_true rfl) hlocks (fun t hW h1 h2 => ⟨(), trivial, rfl, Nat.le_trans hS.1 h1, fun q hq hn => (h2 q (Nat.lt_of_lt_of_le hq hS.1)).trans (hS.2.1 q hq hn)⟩) hS.2.2 (Nat.le_of_ble_eq_true rfl) (Nat.le_of_ble_eq_true rfl)
