set_option maxHeartbeats 4000000 in
set_option maxRecDepth 100000 in
theorem c_L_points (l : Launch) (hst : l.stackTraces = false) (D : va_G) (K : Nat → ClassId) (h0 h9 h1 h2 h3 h4 h5 h6 h7 a1 a2 a3 a4 a5 a6 : Nat) (sz : Nat) (p0 : Int32) : Met l yL_points [.codeWith yL_points cL_points 4 (some .int) [(0, 9, 12, 24)]] ({ frames := 8, cells := 1, slots := 6, locals := 124 }) (xPre D K [.ref h0, .int p0, .ref h9] [(h0, .inr (0, [.ref h1, .ref h2, .ref h3, .ref h4, .ref h5, .ref h6, .ref h7])), (h1, .inr (1, [.ref a1, .ref a2, .ref a3, .ref a4, .ref a5, .ref a6, .int 0, .int 0])), (h9, .inl (K 3, 1, .inr (.inl (fun _ => 0))))] sz) (va_Qi (fun (r : Int32) (u : Unit) => r = 1) (fun u t => xW D (va_A [(h0, .inr (0, [.ref h1, .ref h2, .ref h3, .ref h4, .ref h5, .ref h6, .ref h7])), (h1, .inr (1, [.ref a1, .ref a2, .ref a3, .ref a4, .ref a5, .ref a6, .int 0, .int 0])), (h9, .inl (K 3, 1, .inr (.inl (fun _ => 0))))] sz) ((fun (_ : Unit) => [(h9, .inl (K 3, 1, .inr (.inl (fun _ => 0))))]) u) t) (va_A [(h0, .inr (0, [.ref h1, .ref h2, .ref h3, .ref h4, .ref h5, .ref h6, .ref h7])), (h1, .inr (1, [.ref a1, .ref a2, .ref a3, .ref a4, .ref a5, .ref a6, .int 0, .int 0])), (h9, .inl (K 3, 1, .inr (.inl (fun _ => 0))))] sz)) 1 6 (va_A [(h0, .inr (0, [.ref h1, .ref h2, .ref h3, .ref h4, .ref h5, .ref h6, .ref h7])), (h1, .inr (1, [.ref a1, .ref a2, .ref a3, .ref a4, .ref a5, .ref a6, .int 0, .int 0])), (h9, .inl (K 3, 1, .inr (.inl (fun _ => 0))))] sz) := by
  refine va_MetW (cc := cL_points) (maxL := 4) (ret := (some .int)) (by decide) rfl ?_
  intro p e s m args below meth c s₁ B hml hv
  obtain ⟨rfl, hsz, hP, hD0, hE⟩ := hv
  have hx := B.exec
  have hb := B.bytes
  have hr := B.returns
  have hlocks := B.notSynchronized
  have hts := hE.1.ts ([.ref h0, .int p0, .ref h9] : List Value).toArray
  have hnt := hE.1.nt ([.ref h0, .int p0, .ref h9] : List Value).toArray
  have hK := hE.2.1
  have hown : s.vm.findClass RL = some m.cls := findClass_of_methodNamed B.named
  have htb := vx_table (x := yL_points) B (atoms_spec (ws := [.codeWith yL_points cL_points 4 (some .int) [(0, 9, 12, 24)]]) B.pre _ List.mem_cons_self)
  subst hsz
  have hD := hD0.self (sz := s.heap.size)
  generalize hAe : va_A [(h0, .inr (0, [.ref h1, .ref h2, .ref h3, .ref h4, .ref h5, .ref h6, .ref h7])), (h1, .inr (1, [.ref a1, .ref a2, .ref a3, .ref a4, .ref a5, .ref a6, .int 0, .int 0])), (h9, .inl (K 3, 1, .inr (.inl (fun _ => 0))))] s.heap.size = A at hD hE ⊢
  have hA : ∀ q : Nat, s.heap.size ≤ q → A q := fun q h => by rw [← hAe]; exact Or.inr h
  have hl := lv_entry ([.ref h0, .int p0, .ref h9]) (n := 4) (Nat.le_of_ble_eq_true rfl)
  rw [lg_entry_eq]
  generalize (lg_sl ([.ref h0, .int p0, .ref h9]) ++ List.replicate (4 - (lg_sl ([.ref h0, .int p0, .ref h9])).length) Slot.unset).toArray = ls at hl ⊢
  have hl : lv_has ls 4 [(0, .ref h0), (1, .int p0), (2, .ref h9)] := hl
  generalize hH : s.heap = H at hP ⊢
  have hS : va_S A s.heap H [] := by rw [← hH]; exact va_S.rf
  refine lv_aload_n hx hb dL_points_0 rfl (lv_at hl 2 rfl) ?_
  refine lv_iconst (v := 0) hx hb dL_points_1 (by decide) ?_
  refine lv_aload_n hx hb dL_points_2 rfl (lv_at hl 0 rfl) ?_
  refine lv_iload_n hx hb dL_points_3 rfl (lv_at hl 1 rfl) ?_
  have hF := va_free (wc := [(h0, .inr (0, [.ref h1, .ref h2, .ref h3, .ref h4, .ref h5, .ref h6, .ref h7])), (h1, .inr (1, [.ref a1, .ref a2, .ref a3, .ref a4, .ref a5, .ref a6, .int 0, .int 0]))]) hD hS hA [0, 1] rfl
  refine xkx_i (px := fun E => E = "java/util/NoSuchElementException") (w1 := fun (_ : Unit) => []) (wc := [(h0, .inr (0, [.ref h1, .ref h2, .ref h3, .ref h4, .ref h5, .ref h6, .ref h7])), (h1, .inr (1, [.ref a1, .ref a2, .ref a3, .ref a4, .ref a5, .ref a6, .int 0, .int 0]))]) (wr := [(h9, .inl (K 3, 1, .inr (.inl (fun _ => 0))))]) (vx_runV (As := [.int p0]) (rest := [.int 0, .ref h9]) ⟨hx, hb, hml, hown, hts⟩ (c_X8_points l hst D K h0 h1 h2 h3 h4 h5 h6 h7 a1 a2 a3 a4 a5 a6 H.size p0) (cwV 1 hts xg_RL_X8_points_63 rfl rfl rfl (by decide +kernel) ⟨Nat.le_of_ble_eq_true rfl, Nat.le_of_ble_eq_true rfl⟩) ⟨xPre.blind, va_recv hK hP (ci := 0) (q0 := 0) rfl rfl, xPre.call hE hS (hP.sub [0, 1] rfl) (hD.sub [0, 1] (by decide) rfl) hF⟩ rfl rfl hl.1 rfl (lv_room (Nat.le_of_ble_eq_true rfl)) dL_points_4 ⟨Nat.le_of_ble_eq_true rfl, Nat.le_of_ble_eq_true rfl⟩) hP hD hS hF [0, 1] [2] rfl rfl rfl (by decide) (fun E9 ce9 q9 H locs hpx_4 hP hD hS hce hcv hcl => ?_) (fun r_2 u_1 H locs hw_3 hP hD hS => ?_)
  · obtain rfl := hpx_4
    refine vx_catch (own := RL) (name := "java/util/NoSuchElementException") hown (tableOf []) ⟨0, 9, 12, 24⟩ (tableOf []) (htb.trans rfl) (fun z hz => absurd hz List.not_mem_nil) (by decide) (by decide) (hts _ xw9_7) (va_Nw.use rfl (hE.1.2.2.1 "java/util/NoSuchElementException" (by decide +kernel))) hce hcv hcl ?_
    refine lv_astore_n (lv' := [(3, .ref q9), (0, .ref h0), (1, .int p0), (2, .ref h9)]) hx hb dL_points_12 rfl hl (by decide) rfl (fun ls hl => ?_)
    refine lv_iconst (v := 1) hx hb dL_points_13 (by decide) ?_
    have hP9 : va_P D xCl [(h9, .inl (K 3, 1, .inr (.inl (fun _ => 0))))] H := hP.sub [0] rfl
    have hD9 : va_D A [(h9, .inl (K 3, 1, .inr (.inl (fun _ => 0))))] := hD.sub [0] (by decide) rfl
    refine W.widen (k := 1) (n := 6) (Nat.le_of_ble_eq_true rfl) (Nat.le_of_ble_eq_true rfl) ?_
    exact W.iret (v := 1) hx hb hr (fun t ht hW => ⟨⟨1, (), rfl, rfl, by rw [ht]; exact hP9, hD9⟩, hS.F ht⟩) hS.2.2 dL_points_14
  · exact hw_3.elim
set_option maxHeartbeats 4000000 in
set_option maxRecDepth 100000 in
theorem c_L_strength (l : Launch) (hst : l.stackTraces = false) (D : va_G) (K : Nat → ClassId) (h0 h9 h1 h2 h3 h4 h5 h6 h7 a1 a2 a3 a4 a5 a6 : Nat) (sz : Nat) (p0 : Int32) : Met l yL_strength [.codeWith yL_strength cL_strength 4 (some .int) [(0, 9, 12, 24)]] ({ frames := 8, cells := 1, slots := 6, locals := 124 }) (xPre D K [.ref h0, .int p0, .ref h9] [(h0, .inr (0, [.ref h1, .ref h2, .ref h3, .ref h4, .ref h5, .ref h6, .ref h7])), (h1, .inr (1, [.ref a1, .ref a2, .ref a3, .ref a4, .ref a5, .ref a6, .int 0, .int 0])), (h9, .inl (K 3, 1, .inr (.inl (fun _ => 0))))] sz) (va_Qi (fun (r : Int32) (u : Unit) => r = 1) (fun u t => xW D (va_A [(h0, .inr (0, [.ref h1, .ref h2, .ref h3, .ref h4, .ref h5, .ref h6, .ref h7])), (h1, .inr (1, [.ref a1, .ref a2, .ref a3, .ref a4, .ref a5, .ref a6, .int 0, .int 0])), (h9, .inl (K 3, 1, .inr (.inl (fun _ => 0))))] sz) ((fun (_ : Unit) => [(h9, .inl (K 3, 1, .inr (.inl (fun _ => 0))))]) u) t) (va_A [(h0, .inr (0, [.ref h1, .ref h2, .ref h3, .ref h4, .ref h5, .ref h6, .ref h7])), (h1, .inr (1, [.ref a1, .ref a2, .ref a3, .ref a4, .ref a5, .ref a6, .int 0, .int 0])), (h9, .inl (K 3, 1, .inr (.inl (fun _ => 0))))] sz)) 1 6 (va_A [(h0, .inr (0, [.ref h1, .ref h2, .ref h3, .ref h4, .ref h5, .ref h6, .ref h7])), (h1, .inr (1, [.ref a1, .ref a2, .ref a3, .ref a4, .ref a5, .ref a6, .int 0, .int 0])), (h9, .inl (K 3, 1, .inr (.inl (fun _ => 0))))] sz) := by
  refine va_MetW (cc := cL_strength) (maxL := 4) (ret := (some .int)) (by decide) rfl ?_
  intro p e s m args below meth c s₁ B hml hv
  obtain ⟨rfl, hsz, hP, hD0, hE⟩ := hv
  have hx := B.exec
  have hb := B.bytes
  have hr := B.returns
  have hlocks := B.notSynchronized
  have hts := hE.1.ts ([.ref h0, .int p0, .ref h9] : List Value).toArray
  have hnt := hE.1.nt ([.ref h0, .int p0, .ref h9] : List Value).toArray
  have hK := hE.2.1
  have hown : s.vm.findClass RL = some m.cls := findClass_of_methodNamed B.named
  have htb := vx_table (x := yL_strength) B (atoms_spec (ws := [.codeWith yL_strength cL_strength 4 (some .int) [(0, 9, 12, 24)]]) B.pre _ List.mem_cons_self)
  subst hsz
  have hD := hD0.self (sz := s.heap.size)
  generalize hAe : va_A [(h0, .inr (0, [.ref h1, .ref h2, .ref h3, .ref h4, .ref h5, .ref h6, .ref h7])), (h1, .inr (1, [.ref a1, .ref a2, .ref a3, .ref a4, .ref a5, .ref a6, .int 0, .int 0])), (h9, .inl (K 3, 1, .inr (.inl (fun _ => 0))))] s.heap.size = A at hD hE ⊢
  have hA : ∀ q : Nat, s.heap.size ≤ q → A q := fun q h => by rw [← hAe]; exact Or.inr h
  have hl := lv_entry ([.ref h0, .int p0, .ref h9]) (n := 4) (Nat.le_of_ble_eq_true rfl)
  rw [lg_entry_eq]
  generalize (lg_sl ([.ref h0, .int p0, .ref h9]) ++ List.replicate (4 - (lg_sl ([.ref h0, .int p0, .ref h9])).length) Slot.unset).toArray = ls at hl ⊢
  have hl : lv_has ls 4 [(0, .ref h0), (1, .int p0), (2, .ref h9)] := hl
  generalize hH : s.heap = H at hP ⊢
  have hS : va_S A s.heap H [] := by rw [← hH]; exact va_S.rf
  refine lv_aload_n hx hb dL_strength_0 rfl (lv_at hl 2 rfl) ?_
  refine lv_iconst (v := 0) hx hb dL_strength_1 (by decide) ?_
  refine lv_aload_n hx hb dL_strength_2 rfl (lv_at hl 0 rfl) ?_
  refine lv_iload_n hx hb dL_strength_3 rfl (lv_at hl 1 rfl) ?_
  have hF := va_free (wc := [(h0, .inr (0, [.ref h1, .ref h2, .ref h3, .ref h4, .ref h5, .ref h6, .ref h7])), (h1, .inr (1, [.ref a1, .ref a2, .ref a3, .ref a4, .ref a5, .ref a6, .int 0, .int 0]))]) hD hS hA [0, 1] rfl
  refine xkx_i (px := fun E => E = "java/util/NoSuchElementException") (w1 := fun (_ : Unit) => []) (wc := [(h0, .inr (0, [.ref h1, .ref h2, .ref h3, .ref h4, .ref h5, .ref h6, .ref h7])), (h1, .inr (1, [.ref a1, .ref a2, .ref a3, .ref a4, .ref a5, .ref a6, .int 0, .int 0]))]) (wr := [(h9, .inl (K 3, 1, .inr (.inl (fun _ => 0))))]) (vx_runV (As := [.int p0]) (rest := [.int 0, .ref h9]) ⟨hx, hb, hml, hown, hts⟩ (c_X8_strength l hst D K h0 h1 h2 h3 h4 h5 h6 h7 a1 a2 a3 a4 a5 a6 H.size p0) (cwV 1 hts xg_RL_X8_strength_66 rfl rfl rfl (by decide +kernel) ⟨Nat.le_of_ble_eq_true rfl, Nat.le_of_ble_eq_true rfl⟩) ⟨xPre.blind, va_recv hK hP (ci := 0) (q0 := 0) rfl rfl, xPre.call hE hS (hP.sub [0, 1] rfl) (hD.sub [0, 1] (by decide) rfl) hF⟩ rfl rfl hl.1 rfl (lv_room (Nat.le_of_ble_eq_true rfl)) dL_strength_4 ⟨Nat.le_of_ble_eq_true rfl, Nat.le_of_ble_eq_true rfl⟩) hP hD hS hF [0, 1] [2] rfl rfl rfl (by decide) (fun E9 ce9 q9 H locs hpx_4 hP hD hS hce hcv hcl => ?_) (fun r_2 u_1 H locs hw_3 hP hD hS => ?_)
  · obtain rfl := hpx_4
    refine vx_catch (own := RL) (name := "java/util/NoSuchElementException") hown (tableOf []) ⟨0, 9, 12, 24⟩ (tableOf []) (htb.trans rfl) (fun z hz => absurd hz List.not_mem_nil) (by decide) (by decide) (hts _ xw9_7) (va_Nw.use rfl (hE.1.2.2.1 "java/util/NoSuchElementException" (by decide +kernel))) hce hcv hcl ?_
    refine lv_astore_n (lv' := [(3, .ref q9), (0, .ref h0), (1, .int p0), (2, .ref h9)]) hx hb dL_strength_12 rfl hl (by decide) rfl (fun ls hl => ?_)
    refine lv_iconst (v := 1) hx hb dL_strength_13 (by decide) ?_
    have hP9 : va_P D xCl [(h9, .inl (K 3, 1, .inr (.inl (fun _ => 0))))] H := hP.sub [0] rfl
    have hD9 : va_D A [(h9, .inl (K 3, 1, .inr (.inl (fun _ => 0))))] := hD.sub [0] (by decide) rfl
    refine W.widen (k := 1) (n := 6) (Nat.le_of_ble_eq_true rfl) (Nat.le_of_ble_eq_true rfl) ?_
    exact W.iret (v := 1) hx hb hr (fun t ht hW => ⟨⟨1, (), rfl, rfl, by rw [ht]; exact hP9, hD9⟩, hS.F ht⟩) hS.2.2 dL_strength_14
  · exact hw_3.elim
set_option maxHeartbeats 4000000 in
set_option maxRecDepth 100000 in
theorem c_L_standing (l : Launch) (hst : l.stackTraces = false) (D : va_G) (K : Nat → ClassId) (h0 h9 h1 h2 h3 h4 h5 h6 h7 a1 a2 a3 a4 a5 a6 : Nat) (sz : Nat) (p0 : Int32) : Met l yL_standing [.codeWith yL_standing cL_standing 4 (some .int) [(0, 9, 12, 72)]] ({ frames := 7, cells := 1, slots := 6, locals := 103 }) (xPre D K [.ref h0, .int p0, .ref h9] [(h0, .inr (0, [.ref h1, .ref h2, .ref h3, .ref h4, .ref h5, .ref h6, .ref h7])), (h1, .inr (1, [.ref a1, .ref a2, .ref a3, .ref a4, .ref a5, .ref a6, .int 0, .int 0])), (h9, .inl (K 3, 1, .inr (.inl (fun _ => 0))))] sz) (va_Qi (fun (r : Int32) (u : Unit) => r = 1) (fun u t => xW D (va_A [(h0, .inr (0, [.ref h1, .ref h2, .ref h3, .ref h4, .ref h5, .ref h6, .ref h7])), (h1, .inr (1, [.ref a1, .ref a2, .ref a3, .ref a4, .ref a5, .ref a6, .int 0, .int 0])), (h9, .inl (K 3, 1, .inr (.inl (fun _ => 0))))] sz) ((fun (_ : Unit) => [(h9, .inl (K 3, 1, .inr (.inl (fun _ => 0))))]) u) t) (va_A [(h0, .inr (0, [.ref h1, .ref h2, .ref h3, .ref h4, .ref h5, .ref h6, .ref h7])), (h1, .inr (1, [.ref a1, .ref a2, .ref a3, .ref a4, .ref a5, .ref a6, .int 0, .int 0])), (h9, .inl (K 3, 1, .inr (.inl (fun _ => 0))))] sz)) 1 6 (va_A [(h0, .inr (0, [.ref h1, .ref h2, .ref h3, .ref h4, .ref h5, .ref h6, .ref h7])), (h1, .inr (1, [.ref a1, .ref a2, .ref a3, .ref a4, .ref a5, .ref a6, .int 0, .int 0])), (h9, .inl (K 3, 1, .inr (.inl (fun _ => 0))))] sz) := by
  refine va_MetW (cc := cL_standing) (maxL := 4) (ret := (some .int)) (by decide) rfl ?_
  intro p e s m args below meth c s₁ B hml hv
  obtain ⟨rfl, hsz, hP, hD0, hE⟩ := hv
  have hx := B.exec
  have hb := B.bytes
  have hr := B.returns
  have hlocks := B.notSynchronized
  have hts := hE.1.ts ([.ref h0, .int p0, .ref h9] : List Value).toArray
  have hnt := hE.1.nt ([.ref h0, .int p0, .ref h9] : List Value).toArray
  have hK := hE.2.1
  have hown : s.vm.findClass RL = some m.cls := findClass_of_methodNamed B.named
  have htb := vx_table (x := yL_standing) B (atoms_spec (ws := [.codeWith yL_standing cL_standing 4 (some .int) [(0, 9, 12, 72)]]) B.pre _ List.mem_cons_self)
  subst hsz
  have hD := hD0.self (sz := s.heap.size)
  generalize hAe : va_A [(h0, .inr (0, [.ref h1, .ref h2, .ref h3, .ref h4, .ref h5, .ref h6, .ref h7])), (h1, .inr (1, [.ref a1, .ref a2, .ref a3, .ref a4, .ref a5, .ref a6, .int 0, .int 0])), (h9, .inl (K 3, 1, .inr (.inl (fun _ => 0))))] s.heap.size = A at hD hE ⊢
  have hA : ∀ q : Nat, s.heap.size ≤ q → A q := fun q h => by rw [← hAe]; exact Or.inr h
  have hl := lv_entry ([.ref h0, .int p0, .ref h9]) (n := 4) (Nat.le_of_ble_eq_true rfl)
  rw [lg_entry_eq]
  generalize (lg_sl ([.ref h0, .int p0, .ref h9]) ++ List.replicate (4 - (lg_sl ([.ref h0, .int p0, .ref h9])).length) Slot.unset).toArray = ls at hl ⊢
  have hl : lv_has ls 4 [(0, .ref h0), (1, .int p0), (2, .ref h9)] := hl
  generalize hH : s.heap = H at hP ⊢
  have hS : va_S A s.heap H [] := by rw [← hH]; exact va_S.rf
  refine lv_aload_n hx hb dL_standing_0 rfl (lv_at hl 2 rfl) ?_
  refine lv_iconst (v := 0) hx hb dL_standing_1 (by decide) ?_
  refine lv_aload_n hx hb dL_standing_2 rfl (lv_at hl 0 rfl) ?_
  refine lv_iload_n hx hb dL_standing_3 rfl (lv_at hl 1 rfl) ?_
  have hF := va_free (wc := [(h0, .inr (0, [.ref h1, .ref h2, .ref h3, .ref h4, .ref h5, .ref h6, .ref h7])), (h1, .inr (1, [.ref a1, .ref a2, .ref a3, .ref a4, .ref a5, .ref a6, .int 0, .int 0]))]) hD hS hA [0, 1] rfl
  refine xkx_i (px := fun E => E = "java/lang/IndexOutOfBoundsException") (w1 := fun (_ : Unit) => []) (wc := [(h0, .inr (0, [.ref h1, .ref h2, .ref h3, .ref h4, .ref h5, .ref h6, .ref h7])), (h1, .inr (1, [.ref a1, .ref a2, .ref a3, .ref a4, .ref a5, .ref a6, .int 0, .int 0]))]) (wr := [(h9, .inl (K 3, 1, .inr (.inl (fun _ => 0))))]) (vx_runV (As := [.int p0]) (rest := [.int 0, .ref h9]) ⟨hx, hb, hml, hown, hts⟩ (c_X8_standing l hst D K h0 h1 h2 h3 h4 h5 h6 h7 a1 a2 a3 a4 a5 a6 H.size p0) (cwV 1 hts xg_RL_X8_standing_69 rfl rfl rfl (by decide +kernel) ⟨Nat.le_of_ble_eq_true rfl, Nat.le_of_ble_eq_true rfl⟩) ⟨xPre.blind, va_recv hK hP (ci := 0) (q0 := 0) rfl rfl, xPre.call hE hS (hP.sub [0, 1] rfl) (hD.sub [0, 1] (by decide) rfl) hF⟩ rfl rfl hl.1 rfl (lv_room (Nat.le_of_ble_eq_true rfl)) dL_standing_4 ⟨Nat.le_of_ble_eq_true rfl, Nat.le_of_ble_eq_true rfl⟩) hP hD hS hF [0, 1] [2] rfl rfl rfl (by decide) (fun E9 ce9 q9 H locs hpx_4 hP hD hS hce hcv hcl => ?_) (fun r_2 u_1 H locs hw_3 hP hD hS => ?_)
  · obtain rfl := hpx_4
    refine vx_catch (own := RL) (name := "java/lang/IndexOutOfBoundsException") hown (tableOf []) ⟨0, 9, 12, 72⟩ (tableOf []) (htb.trans rfl) (fun z hz => absurd hz List.not_mem_nil) (by decide) (by decide) (hts _ xw31_5) (va_Nw.use rfl (hE.1.2.2.1 "java/lang/IndexOutOfBoundsException" (by decide +kernel))) hce hcv hcl ?_
    refine lv_astore_n (lv' := [(3, .ref q9), (0, .ref h0), (1, .int p0), (2, .ref h9)]) hx hb dL_standing_12 rfl hl (by decide) rfl (fun ls hl => ?_)
    refine lv_iconst (v := 1) hx hb dL_standing_13 (by decide) ?_
    have hP9 : va_P D xCl [(h9, .inl (K 3, 1, .inr (.inl (fun _ => 0))))] H := hP.sub [0] rfl
    have hD9 : va_D A [(h9, .inl (K 3, 1, .inr (.inl (fun _ => 0))))] := hD.sub [0] (by decide) rfl
    refine W.widen (k := 1) (n := 6) (Nat.le_of_ble_eq_true rfl) (Nat.le_of_ble_eq_true rfl) ?_
    exact W.iret (v := 1) hx hb hr (fun t ht hW => ⟨⟨1, (), rfl, rfl, by rw [ht]; exact hP9, hD9⟩, hS.F ht⟩) hS.2.2 dL_standing_14
  · exact hw_3.elim
set_option maxHeartbeats 4000000 in
set_option maxRecDepth 100000 in
theorem c_L_met (l : Launch) (hst : l.stackTraces = false) (D : va_G) (K : Nat → ClassId) (h0 h9 h1 h2 h3 h4 h5 h6 h7 a1 a2 a3 a4 a5 a6 : Nat) (sz : Nat) (p0 p1 : Int32) : Met l yL_met [.codeWith yL_met cL_met 5 (some .int) [(0, 10, 13, 24), (0, 10, 17, 13)]] ({ frames := 8, cells := 1, slots := 6, locals := 125 }) (xPre D K [.ref h0, .int p0, .int p1, .ref h9] [(h0, .inr (0, [.ref h1, .ref h2, .ref h3, .ref h4, .ref h5, .ref h6, .ref h7])), (h1, .inr (1, [.ref a1, .ref a2, .ref a3, .ref a4, .ref a5, .ref a6, .int 0, .int 0])), (h9, .inl (K 3, 1, .inr (.inl (fun _ => 0))))] sz) (va_Qi (fun (r : Int32) (u : Unit) => r = 1) (fun u t => xW D (va_A [(h0, .inr (0, [.ref h1, .ref h2, .ref h3, .ref h4, .ref h5, .ref h6, .ref h7])), (h1, .inr (1, [.ref a1, .ref a2, .ref a3, .ref a4, .ref a5, .ref a6, .int 0, .int 0])), (h9, .inl (K 3, 1, .inr (.inl (fun _ => 0))))] sz) ((fun (_ : Unit) => [(h9, .inl (K 3, 1, .inr (.inl (fun _ => 0))))]) u) t) (va_A [(h0, .inr (0, [.ref h1, .ref h2, .ref h3, .ref h4, .ref h5, .ref h6, .ref h7])), (h1, .inr (1, [.ref a1, .ref a2, .ref a3, .ref a4, .ref a5, .ref a6, .int 0, .int 0])), (h9, .inl (K 3, 1, .inr (.inl (fun _ => 0))))] sz)) 1 6 (va_A [(h0, .inr (0, [.ref h1, .ref h2, .ref h3, .ref h4, .ref h5, .ref h6, .ref h7])), (h1, .inr (1, [.ref a1, .ref a2, .ref a3, .ref a4, .ref a5, .ref a6, .int 0, .int 0])), (h9, .inl (K 3, 1, .inr (.inl (fun _ => 0))))] sz) := by
  refine va_MetW (cc := cL_met) (maxL := 5) (ret := (some .int)) (by decide) rfl ?_
  intro p e s m args below meth c s₁ B hml hv
  obtain ⟨rfl, hsz, hP, hD0, hE⟩ := hv
  have hx := B.exec
  have hb := B.bytes
  have hr := B.returns
  have hlocks := B.notSynchronized
  have hts := hE.1.ts ([.ref h0, .int p0, .int p1, .ref h9] : List Value).toArray
  have hnt := hE.1.nt ([.ref h0, .int p0, .int p1, .ref h9] : List Value).toArray
  have hK := hE.2.1
  have hown : s.vm.findClass RL = some m.cls := findClass_of_methodNamed B.named
  have htb := vx_table (x := yL_met) B (atoms_spec (ws := [.codeWith yL_met cL_met 5 (some .int) [(0, 10, 13, 24), (0, 10, 17, 13)]]) B.pre _ List.mem_cons_self)
  subst hsz
  have hD := hD0.self (sz := s.heap.size)
  generalize hAe : va_A [(h0, .inr (0, [.ref h1, .ref h2, .ref h3, .ref h4, .ref h5, .ref h6, .ref h7])), (h1, .inr (1, [.ref a1, .ref a2, .ref a3, .ref a4, .ref a5, .ref a6, .int 0, .int 0])), (h9, .inl (K 3, 1, .inr (.inl (fun _ => 0))))] s.heap.size = A at hD hE ⊢
  have hA : ∀ q : Nat, s.heap.size ≤ q → A q := fun q h => by rw [← hAe]; exact Or.inr h
  have hl := lv_entry ([.ref h0, .int p0, .int p1, .ref h9]) (n := 5) (Nat.le_of_ble_eq_true rfl)
  rw [lg_entry_eq]
  generalize (lg_sl ([.ref h0, .int p0, .int p1, .ref h9]) ++ List.replicate (5 - (lg_sl ([.ref h0, .int p0, .int p1, .ref h9])).length) Slot.unset).toArray = ls at hl ⊢
  have hl : lv_has ls 5 [(0, .ref h0), (1, .int p0), (2, .int p1), (3, .ref h9)] := hl
  generalize hH : s.heap = H at hP ⊢
  have hS : va_S A s.heap H [] := by rw [← hH]; exact va_S.rf
  refine lv_aload_n hx hb dL_met_0 rfl (lv_at hl 3 rfl) ?_
  refine lv_iconst (v := 0) hx hb dL_met_1 (by decide) ?_
  refine lv_aload_n hx hb dL_met_2 rfl (lv_at hl 0 rfl) ?_
  refine lv_iload_n hx hb dL_met_3 rfl (lv_at hl 1 rfl) ?_
  refine lv_iload_n hx hb dL_met_4 rfl (lv_at hl 2 rfl) ?_
  have hF := va_free (wc := [(h0, .inr (0, [.ref h1, .ref h2, .ref h3, .ref h4, .ref h5, .ref h6, .ref h7])), (h1, .inr (1, [.ref a1, .ref a2, .ref a3, .ref a4, .ref a5, .ref a6, .int 0, .int 0]))]) hD hS hA [0, 1] rfl
  refine xkx_i (px := fun E => E = "java/util/NoSuchElementException") (w1 := fun (_ : Unit) => []) (wc := [(h0, .inr (0, [.ref h1, .ref h2, .ref h3, .ref h4, .ref h5, .ref h6, .ref h7])), (h1, .inr (1, [.ref a1, .ref a2, .ref a3, .ref a4, .ref a5, .ref a6, .int 0, .int 0]))]) (wr := [(h9, .inl (K 3, 1, .inr (.inl (fun _ => 0))))]) (vx_runV (As := [.int p0, .int p1]) (rest := [.int 0, .ref h9]) ⟨hx, hb, hml, hown, hts⟩ (c_X8_met l hst D K h0 h1 h2 h3 h4 h5 h6 h7 a1 a2 a3 a4 a5 a6 H.size p0 p1) (cwV 2 hts xg_RL_X8_met_74 rfl rfl rfl (by decide +kernel) ⟨Nat.le_of_ble_eq_true rfl, Nat.le_of_ble_eq_true rfl⟩) ⟨xPre.blind, va_recv hK hP (ci := 0) (q0 := 0) rfl rfl, xPre.call hE hS (hP.sub [0, 1] rfl) (hD.sub [0, 1] (by decide) rfl) hF⟩ rfl rfl hl.1 rfl (lv_room (Nat.le_of_ble_eq_true rfl)) dL_met_5 ⟨Nat.le_of_ble_eq_true rfl, Nat.le_of_ble_eq_true rfl⟩) hP hD hS hF [0, 1] [2] rfl rfl rfl (by decide) (fun E9 ce9 q9 H locs hpx_4 hP hD hS hce hcv hcl => ?_) (fun r_2 u_1 H locs hw_3 hP hD hS => ?_)
  · obtain rfl := hpx_4
    refine vx_catch (own := RL) (name := "java/util/NoSuchElementException") hown (tableOf []) ⟨0, 10, 13, 24⟩ (tableOf [(0, 10, 17, 13)]) (htb.trans rfl) (fun z hz => absurd hz List.not_mem_nil) (by decide) (by decide) (hts _ xw9_7) (va_Nw.use rfl (hE.1.2.2.1 "java/util/NoSuchElementException" (by decide +kernel))) hce hcv hcl ?_
    refine lv_astore (lv' := [(4, .ref q9), (0, .ref h0), (1, .int p0), (2, .int p1), (3, .ref h9)]) hx hb dL_met_13 hl (by decide) rfl (fun ls hl => ?_)
    refine lv_iconst (v := 1) hx hb dL_met_15 (by decide) ?_
    have hP9 : va_P D xCl [(h9, .inl (K 3, 1, .inr (.inl (fun _ => 0))))] H := hP.sub [0] rfl
    have hD9 : va_D A [(h9, .inl (K 3, 1, .inr (.inl (fun _ => 0))))] := hD.sub [0] (by decide) rfl
    refine W.widen (k := 1) (n := 6) (Nat.le_of_ble_eq_true rfl) (Nat.le_of_ble_eq_true rfl) ?_
    exact W.iret (v := 1) hx hb hr (fun t ht hW => ⟨⟨1, (), rfl, rfl, by rw [ht]; exact hP9, hD9⟩, hS.F ht⟩) hS.2.2 dL_met_16
  · exact hw_3.elim
set_option maxHeartbeats 4000000 in
set_option maxRecDepth 100000 in
theorem c_L_proposed (l : Launch) (hst : l.stackTraces = false) (D : va_G) (K : Nat → ClassId) (h0 h9 h1 h2 h3 h4 h5 h6 h7 a1 a2 a3 a4 a5 a6 : Nat) (sz : Nat) (p0 : Int32) : Met l yL_proposed [.codeWith yL_proposed cL_proposed 4 (some .int) [(0, 9, 12, 24)]] ({ frames := 8, cells := 1, slots := 6, locals := 124 }) (xPre D K [.ref h0, .int p0, .ref h9] [(h0, .inr (0, [.ref h1, .ref h2, .ref h3, .ref h4, .ref h5, .ref h6, .ref h7])), (h1, .inr (1, [.ref a1, .ref a2, .ref a3, .ref a4, .ref a5, .ref a6, .int 0, .int 0])), (h9, .inl (K 3, 1, .inr (.inl (fun _ => 0))))] sz) (va_Qi (fun (r : Int32) (u : Unit) => r = 1) (fun u t => xW D (va_A [(h0, .inr (0, [.ref h1, .ref h2, .ref h3, .ref h4, .ref h5, .ref h6, .ref h7])), (h1, .inr (1, [.ref a1, .ref a2, .ref a3, .ref a4, .ref a5, .ref a6, .int 0, .int 0])), (h9, .inl (K 3, 1, .inr (.inl (fun _ => 0))))] sz) ((fun (_ : Unit) => [(h9, .inl (K 3, 1, .inr (.inl (fun _ => 0))))]) u) t) (va_A [(h0, .inr (0, [.ref h1, .ref h2, .ref h3, .ref h4, .ref h5, .ref h6, .ref h7])), (h1, .inr (1, [.ref a1, .ref a2, .ref a3, .ref a4, .ref a5, .ref a6, .int 0, .int 0])), (h9, .inl (K 3, 1, .inr (.inl (fun _ => 0))))] sz)) 1 6 (va_A [(h0, .inr (0, [.ref h1, .ref h2, .ref h3, .ref h4, .ref h5, .ref h6, .ref h7])), (h1, .inr (1, [.ref a1, .ref a2, .ref a3, .ref a4, .ref a5, .ref a6, .int 0, .int 0])), (h9, .inl (K 3, 1, .inr (.inl (fun _ => 0))))] sz) := by
  refine va_MetW (cc := cL_proposed) (maxL := 4) (ret := (some .int)) (by decide) rfl ?_
  intro p e s m args below meth c s₁ B hml hv
  obtain ⟨rfl, hsz, hP, hD0, hE⟩ := hv
  have hx := B.exec
  have hb := B.bytes
  have hr := B.returns
  have hlocks := B.notSynchronized
  have hts := hE.1.ts ([.ref h0, .int p0, .ref h9] : List Value).toArray
  have hnt := hE.1.nt ([.ref h0, .int p0, .ref h9] : List Value).toArray
  have hK := hE.2.1
  have hown : s.vm.findClass RL = some m.cls := findClass_of_methodNamed B.named
  have htb := vx_table (x := yL_proposed) B (atoms_spec (ws := [.codeWith yL_proposed cL_proposed 4 (some .int) [(0, 9, 12, 24)]]) B.pre _ List.mem_cons_self)
  subst hsz
  have hD := hD0.self (sz := s.heap.size)
  generalize hAe : va_A [(h0, .inr (0, [.ref h1, .ref h2, .ref h3, .ref h4, .ref h5, .ref h6, .ref h7])), (h1, .inr (1, [.ref a1, .ref a2, .ref a3, .ref a4, .ref a5, .ref a6, .int 0, .int 0])), (h9, .inl (K 3, 1, .inr (.inl (fun _ => 0))))] s.heap.size = A at hD hE ⊢
  have hA : ∀ q : Nat, s.heap.size ≤ q → A q := fun q h => by rw [← hAe]; exact Or.inr h
  have hl := lv_entry ([.ref h0, .int p0, .ref h9]) (n := 4) (Nat.le_of_ble_eq_true rfl)
  rw [lg_entry_eq]
  generalize (lg_sl ([.ref h0, .int p0, .ref h9]) ++ List.replicate (4 - (lg_sl ([.ref h0, .int p0, .ref h9])).length) Slot.unset).toArray = ls at hl ⊢
  have hl : lv_has ls 4 [(0, .ref h0), (1, .int p0), (2, .ref h9)] := hl
  generalize hH : s.heap = H at hP ⊢
  have hS : va_S A s.heap H [] := by rw [← hH]; exact va_S.rf
  refine lv_aload_n hx hb dL_proposed_0 rfl (lv_at hl 2 rfl) ?_
  refine lv_iconst (v := 0) hx hb dL_proposed_1 (by decide) ?_
  refine lv_aload_n hx hb dL_proposed_2 rfl (lv_at hl 0 rfl) ?_
  refine lv_iload_n hx hb dL_proposed_3 rfl (lv_at hl 1 rfl) ?_
  have hF := va_free (wc := [(h0, .inr (0, [.ref h1, .ref h2, .ref h3, .ref h4, .ref h5, .ref h6, .ref h7])), (h1, .inr (1, [.ref a1, .ref a2, .ref a3, .ref a4, .ref a5, .ref a6, .int 0, .int 0]))]) hD hS hA [0, 1] rfl
  refine xkx_i (px := fun E => E = "java/util/NoSuchElementException") (w1 := fun (_ : Unit) => []) (wc := [(h0, .inr (0, [.ref h1, .ref h2, .ref h3, .ref h4, .ref h5, .ref h6, .ref h7])), (h1, .inr (1, [.ref a1, .ref a2, .ref a3, .ref a4, .ref a5, .ref a6, .int 0, .int 0]))]) (wr := [(h9, .inl (K 3, 1, .inr (.inl (fun _ => 0))))]) (vx_runV (As := [.int p0]) (rest := [.int 0, .ref h9]) ⟨hx, hb, hml, hown, hts⟩ (c_X8_proposed l hst D K h0 h1 h2 h3 h4 h5 h6 h7 a1 a2 a3 a4 a5 a6 H.size p0) (cwV 1 hts xg_RL_X8_proposed_77 rfl rfl rfl (by decide +kernel) ⟨Nat.le_of_ble_eq_true rfl, Nat.le_of_ble_eq_true rfl⟩) ⟨xPre.blind, va_recv hK hP (ci := 0) (q0 := 0) rfl rfl, xPre.call hE hS (hP.sub [0, 1] rfl) (hD.sub [0, 1] (by decide) rfl) hF⟩ rfl rfl hl.1 rfl (lv_room (Nat.le_of_ble_eq_true rfl)) dL_proposed_4 ⟨Nat.le_of_ble_eq_true rfl, Nat.le_of_ble_eq_true rfl⟩) hP hD hS hF [0, 1] [2] rfl rfl rfl (by decide) (fun E9 ce9 q9 H locs hpx_4 hP hD hS hce hcv hcl => ?_) (fun r_2 u_1 H locs hw_3 hP hD hS => ?_)
  · obtain rfl := hpx_4
    refine vx_catch (own := RL) (name := "java/util/NoSuchElementException") hown (tableOf []) ⟨0, 9, 12, 24⟩ (tableOf []) (htb.trans rfl) (fun z hz => absurd hz List.not_mem_nil) (by decide) (by decide) (hts _ xw9_7) (va_Nw.use rfl (hE.1.2.2.1 "java/util/NoSuchElementException" (by decide +kernel))) hce hcv hcl ?_
    refine lv_astore_n (lv' := [(3, .ref q9), (0, .ref h0), (1, .int p0), (2, .ref h9)]) hx hb dL_proposed_12 rfl hl (by decide) rfl (fun ls hl => ?_)
    refine lv_iconst (v := 1) hx hb dL_proposed_13 (by decide) ?_
    have hP9 : va_P D xCl [(h9, .inl (K 3, 1, .inr (.inl (fun _ => 0))))] H := hP.sub [0] rfl
    have hD9 : va_D A [(h9, .inl (K 3, 1, .inr (.inl (fun _ => 0))))] := hD.sub [0] (by decide) rfl
    refine W.widen (k := 1) (n := 6) (Nat.le_of_ble_eq_true rfl) (Nat.le_of_ble_eq_true rfl) ?_
    exact W.iret (v := 1) hx hb hr (fun t ht hW => ⟨⟨1, (), rfl, rfl, by rw [ht]; exact hP9, hD9⟩, hS.F ht⟩) hS.2.2 dL_proposed_14
  · exact hw_3.elim
set_option maxHeartbeats 4000000 in
set_option maxRecDepth 100000 in
theorem c_L_bracketSize (l : Launch) (hst : l.stackTraces = false) (D : va_G) (K : Nat → ClassId) (h0 h9 h1 h2 h3 h4 h5 h6 h7 e1 e2 d1 d2 d3 a1 a2 a3 a4 a5 a6 : Nat) (sz : Nat) (p0 : Int32) : Met l yL_bracketSize [.codeWith yL_bracketSize cL_bracketSize 4 (some .int) [(0, 9, 12, 72)]] ({ frames := 8, cells := 1, slots := 6, locals := 124 }) (xPre D K [.ref h0, .int p0, .ref h9] [(h0, .inr (0, [.ref h1, .ref h2, .ref h3, .ref h4, .ref h5, .ref h6, .ref h7])), (h5, .inr (5, [.ref h1, .ref h2, .ref h4, .ref e1, .ref e2, .int 0])), (h4, .inr (4, [.ref h1, .ref h2, .ref h3, .ref d1, .ref d2, .ref d3])), (h1, .inr (1, [.ref a1, .ref a2, .ref a3, .ref a4, .ref a5, .ref a6, .int 0, .int 0])), (h9, .inl (K 3, 1, .inr (.inl (fun _ => 0))))] sz) (va_Qi (fun (r : Int32) (u : Unit) => r = 1) (fun u t => xW D (va_A [(h0, .inr (0, [.ref h1, .ref h2, .ref h3, .ref h4, .ref h5, .ref h6, .ref h7])), (h5, .inr (5, [.ref h1, .ref h2, .ref h4, .ref e1, .ref e2, .int 0])), (h4, .inr (4, [.ref h1, .ref h2, .ref h3, .ref d1, .ref d2, .ref d3])), (h1, .inr (1, [.ref a1, .ref a2, .ref a3, .ref a4, .ref a5, .ref a6, .int 0, .int 0])), (h9, .inl (K 3, 1, .inr (.inl (fun _ => 0))))] sz) ((fun (_ : Unit) => [(h9, .inl (K 3, 1, .inr (.inl (fun _ => 0))))]) u) t) (va_A [(h0, .inr (0, [.ref h1, .ref h2, .ref h3, .ref h4, .ref h5, .ref h6, .ref h7])), (h5, .inr (5, [.ref h1, .ref h2, .ref h4, .ref e1, .ref e2, .int 0])), (h4, .inr (4, [.ref h1, .ref h2, .ref h3, .ref d1, .ref d2, .ref d3])), (h1, .inr (1, [.ref a1, .ref a2, .ref a3, .ref a4, .ref a5, .ref a6, .int 0, .int 0])), (h9, .inl (K 3, 1, .inr (.inl (fun _ => 0))))] sz)) 1 6 (va_A [(h0, .inr (0, [.ref h1, .ref h2, .ref h3, .ref h4, .ref h5, .ref h6, .ref h7])), (h5, .inr (5, [.ref h1, .ref h2, .ref h4, .ref e1, .ref e2, .int 0])), (h4, .inr (4, [.ref h1, .ref h2, .ref h3, .ref d1, .ref d2, .ref d3])), (h1, .inr (1, [.ref a1, .ref a2, .ref a3, .ref a4, .ref a5, .ref a6, .int 0, .int 0])), (h9, .inl (K 3, 1, .inr (.inl (fun _ => 0))))] sz) := by
  refine va_MetW (cc := cL_bracketSize) (maxL := 4) (ret := (some .int)) (by decide) rfl ?_
  intro p e s m args below meth c s₁ B hml hv
  obtain ⟨rfl, hsz, hP, hD0, hE⟩ := hv
  have hx := B.exec
  have hb := B.bytes
  have hr := B.returns
  have hlocks := B.notSynchronized
  have hts := hE.1.ts ([.ref h0, .int p0, .ref h9] : List Value).toArray
  have hnt := hE.1.nt ([.ref h0, .int p0, .ref h9] : List Value).toArray
  have hK := hE.2.1
  have hown : s.vm.findClass RL = some m.cls := findClass_of_methodNamed B.named
  have htb := vx_table (x := yL_bracketSize) B (atoms_spec (ws := [.codeWith yL_bracketSize cL_bracketSize 4 (some .int) [(0, 9, 12, 72)]]) B.pre _ List.mem_cons_self)
  subst hsz
  have hD := hD0.self (sz := s.heap.size)
  generalize hAe : va_A [(h0, .inr (0, [.ref h1, .ref h2, .ref h3, .ref h4, .ref h5, .ref h6, .ref h7])), (h5, .inr (5, [.ref h1, .ref h2, .ref h4, .ref e1, .ref e2, .int 0])), (h4, .inr (4, [.ref h1, .ref h2, .ref h3, .ref d1, .ref d2, .ref d3])), (h1, .inr (1, [.ref a1, .ref a2, .ref a3, .ref a4, .ref a5, .ref a6, .int 0, .int 0])), (h9, .inl (K 3, 1, .inr (.inl (fun _ => 0))))] s.heap.size = A at hD hE ⊢
  have hA : ∀ q : Nat, s.heap.size ≤ q → A q := fun q h => by rw [← hAe]; exact Or.inr h
  have hl := lv_entry ([.ref h0, .int p0, .ref h9]) (n := 4) (Nat.le_of_ble_eq_true rfl)
  rw [lg_entry_eq]
  generalize (lg_sl ([.ref h0, .int p0, .ref h9]) ++ List.replicate (4 - (lg_sl ([.ref h0, .int p0, .ref h9])).length) Slot.unset).toArray = ls at hl ⊢
  have hl : lv_has ls 4 [(0, .ref h0), (1, .int p0), (2, .ref h9)] := hl
  generalize hH : s.heap = H at hP ⊢
  have hS : va_S A s.heap H [] := by rw [← hH]; exact va_S.rf
  refine lv_aload_n hx hb dL_bracketSize_0 rfl (lv_at hl 2 rfl) ?_
  refine lv_iconst (v := 0) hx hb dL_bracketSize_1 (by decide) ?_
  refine lv_aload_n hx hb dL_bracketSize_2 rfl (lv_at hl 0 rfl) ?_
  refine lv_iload_n hx hb dL_bracketSize_3 rfl (lv_at hl 1 rfl) ?_
  have hF := va_free (wc := [(h0, .inr (0, [.ref h1, .ref h2, .ref h3, .ref h4, .ref h5, .ref h6, .ref h7])), (h5, .inr (5, [.ref h1, .ref h2, .ref h4, .ref e1, .ref e2, .int 0])), (h4, .inr (4, [.ref h1, .ref h2, .ref h3, .ref d1, .ref d2, .ref d3])), (h1, .inr (1, [.ref a1, .ref a2, .ref a3, .ref a4, .ref a5, .ref a6, .int 0, .int 0]))]) hD hS hA [0, 1, 2, 3] rfl
  refine xkx_i (px := fun E => E = "java/lang/IndexOutOfBoundsException") (w1 := fun (_ : Unit) => []) (wc := [(h0, .inr (0, [.ref h1, .ref h2, .ref h3, .ref h4, .ref h5, .ref h6, .ref h7])), (h5, .inr (5, [.ref h1, .ref h2, .ref h4, .ref e1, .ref e2, .int 0])), (h4, .inr (4, [.ref h1, .ref h2, .ref h3, .ref d1, .ref d2, .ref d3])), (h1, .inr (1, [.ref a1, .ref a2, .ref a3, .ref a4, .ref a5, .ref a6, .int 0, .int 0]))]) (wr := [(h9, .inl (K 3, 1, .inr (.inl (fun _ => 0))))]) (vx_runV (As := [.int p0]) (rest := [.int 0, .ref h9]) ⟨hx, hb, hml, hown, hts⟩ (c_X8_bracketSize l hst D K h0 h1 h2 h3 h4 h5 h6 h7 e1 e2 d1 d2 d3 a1 a2 a3 a4 a5 a6 H.size p0) (cwV 1 hts xg_RL_X8_bracketSize_80 rfl rfl rfl (by decide +kernel) ⟨Nat.le_of_ble_eq_true rfl, Nat.le_of_ble_eq_true rfl⟩) ⟨xPre.blind, va_recv hK hP (ci := 0) (q0 := 0) rfl rfl, xPre.call hE hS (hP.sub [0, 1, 2, 3] rfl) (hD.sub [0, 1, 2, 3] (by decide) rfl) hF⟩ rfl rfl hl.1 rfl (lv_room (Nat.le_of_ble_eq_true rfl)) dL_bracketSize_4 ⟨Nat.le_of_ble_eq_true rfl, Nat.le_of_ble_eq_true rfl⟩) hP hD hS hF [0, 1, 2, 3] [4] rfl rfl rfl (by decide) (fun E9 ce9 q9 H locs hpx_4 hP hD hS hce hcv hcl => ?_) (fun r_2 u_1 H locs hw_3 hP hD hS => ?_)
  · obtain rfl := hpx_4
    refine vx_catch (own := RL) (name := "java/lang/IndexOutOfBoundsException") hown (tableOf []) ⟨0, 9, 12, 72⟩ (tableOf []) (htb.trans rfl) (fun z hz => absurd hz List.not_mem_nil) (by decide) (by decide) (hts _ xw31_5) (va_Nw.use rfl (hE.1.2.2.1 "java/lang/IndexOutOfBoundsException" (by decide +kernel))) hce hcv hcl ?_
    refine lv_astore_n (lv' := [(3, .ref q9), (0, .ref h0), (1, .int p0), (2, .ref h9)]) hx hb dL_bracketSize_12 rfl hl (by decide) rfl (fun ls hl => ?_)
    refine lv_iconst (v := 1) hx hb dL_bracketSize_13 (by decide) ?_
    have hP9 : va_P D xCl [(h9, .inl (K 3, 1, .inr (.inl (fun _ => 0))))] H := hP.sub [0] rfl
    have hD9 : va_D A [(h9, .inl (K 3, 1, .inr (.inl (fun _ => 0))))] := hD.sub [0] (by decide) rfl
    refine W.widen (k := 1) (n := 6) (Nat.le_of_ble_eq_true rfl) (Nat.le_of_ble_eq_true rfl) ?_
    exact W.iret (v := 1) hx hb hr (fun t ht hW => ⟨⟨1, (), rfl, rfl, by rw [ht]; exact hP9, hD9⟩, hS.F ht⟩) hS.2.2 dL_bracketSize_14
  · exact hw_3.elim
set_option maxHeartbeats 4000000 in
set_option maxRecDepth 100000 in
theorem c_L_bracketAt (l : Launch) (hst : l.stackTraces = false) (D : va_G) (K : Nat → ClassId) (h0 h9 h1 h2 h3 h4 h5 h6 h7 e1 e2 d1 d2 d3 a1 a2 a3 a4 a5 a6 : Nat) (sz : Nat) (p0 p1 : Int32) : Met l yL_bracketAt [.codeWith yL_bracketAt cL_bracketAt 5 (some .int) [(0, 10, 13, 72)]] ({ frames := 8, cells := 1, slots := 6, locals := 125 }) (xPre D K [.ref h0, .int p0, .int p1, .ref h9] [(h0, .inr (0, [.ref h1, .ref h2, .ref h3, .ref h4, .ref h5, .ref h6, .ref h7])), (h5, .inr (5, [.ref h1, .ref h2, .ref h4, .ref e1, .ref e2, .int 0])), (h4, .inr (4, [.ref h1, .ref h2, .ref h3, .ref d1, .ref d2, .ref d3])), (h1, .inr (1, [.ref a1, .ref a2, .ref a3, .ref a4, .ref a5, .ref a6, .int 0, .int 0])), (h9, .inl (K 3, 1, .inr (.inl (fun _ => 0))))] sz) (va_Qi (fun (r : Int32) (u : Unit) => r = 1) (fun u t => xW D (va_A [(h0, .inr (0, [.ref h1, .ref h2, .ref h3, .ref h4, .ref h5, .ref h6, .ref h7])), (h5, .inr (5, [.ref h1, .ref h2, .ref h4, .ref e1, .ref e2, .int 0])), (h4, .inr (4, [.ref h1, .ref h2, .ref h3, .ref d1, .ref d2, .ref d3])), (h1, .inr (1, [.ref a1, .ref a2, .ref a3, .ref a4, .ref a5, .ref a6, .int 0, .int 0])), (h9, .inl (K 3, 1, .inr (.inl (fun _ => 0))))] sz) ((fun (_ : Unit) => [(h9, .inl (K 3, 1, .inr (.inl (fun _ => 0))))]) u) t) (va_A [(h0, .inr (0, [.ref h1, .ref h2, .ref h3, .ref h4, .ref h5, .ref h6, .ref h7])), (h5, .inr (5, [.ref h1, .ref h2, .ref h4, .ref e1, .ref e2, .int 0])), (h4, .inr (4, [.ref h1, .ref h2, .ref h3, .ref d1, .ref d2, .ref d3])), (h1, .inr (1, [.ref a1, .ref a2, .ref a3, .ref a4, .ref a5, .ref a6, .int 0, .int 0])), (h9, .inl (K 3, 1, .inr (.inl (fun _ => 0))))] sz)) 1 6 (va_A [(h0, .inr (0, [.ref h1, .ref h2, .ref h3, .ref h4, .ref h5, .ref h6, .ref h7])), (h5, .inr (5, [.ref h1, .ref h2, .ref h4, .ref e1, .ref e2, .int 0])), (h4, .inr (4, [.ref h1, .ref h2, .ref h3, .ref d1, .ref d2, .ref d3])), (h1, .inr (1, [.ref a1, .ref a2, .ref a3, .ref a4, .ref a5, .ref a6, .int 0, .int 0])), (h9, .inl (K 3, 1, .inr (.inl (fun _ => 0))))] sz) := by
  refine va_MetW (cc := cL_bracketAt) (maxL := 5) (ret := (some .int)) (by decide) rfl ?_
  intro p e s m args below meth c s₁ B hml hv
  obtain ⟨rfl, hsz, hP, hD0, hE⟩ := hv
  have hx := B.exec
  have hb := B.bytes
  have hr := B.returns
  have hlocks := B.notSynchronized
  have hts := hE.1.ts ([.ref h0, .int p0, .int p1, .ref h9] : List Value).toArray
  have hnt := hE.1.nt ([.ref h0, .int p0, .int p1, .ref h9] : List Value).toArray
  have hK := hE.2.1
  have hown : s.vm.findClass RL = some m.cls := findClass_of_methodNamed B.named
  have htb := vx_table (x := yL_bracketAt) B (atoms_spec (ws := [.codeWith yL_bracketAt cL_bracketAt 5 (some .int) [(0, 10, 13, 72)]]) B.pre _ List.mem_cons_self)
  subst hsz
  have hD := hD0.self (sz := s.heap.size)
  generalize hAe : va_A [(h0, .inr (0, [.ref h1, .ref h2, .ref h3, .ref h4, .ref h5, .ref h6, .ref h7])), (h5, .inr (5, [.ref h1, .ref h2, .ref h4, .ref e1, .ref e2, .int 0])), (h4, .inr (4, [.ref h1, .ref h2, .ref h3, .ref d1, .ref d2, .ref d3])), (h1, .inr (1, [.ref a1, .ref a2, .ref a3, .ref a4, .ref a5, .ref a6, .int 0, .int 0])), (h9, .inl (K 3, 1, .inr (.inl (fun _ => 0))))] s.heap.size = A at hD hE ⊢
  have hA : ∀ q : Nat, s.heap.size ≤ q → A q := fun q h => by rw [← hAe]; exact Or.inr h
  have hl := lv_entry ([.ref h0, .int p0, .int p1, .ref h9]) (n := 5) (Nat.le_of_ble_eq_true rfl)
  rw [lg_entry_eq]
  generalize (lg_sl ([.ref h0, .int p0, .int p1, .ref h9]) ++ List.replicate (5 - (lg_sl ([.ref h0, .int p0, .int p1, .ref h9])).length) Slot.unset).toArray = ls at hl ⊢
  have hl : lv_has ls 5 [(0, .ref h0), (1, .int p0), (2, .int p1), (3, .ref h9)] := hl
  generalize hH : s.heap = H at hP ⊢
  have hS : va_S A s.heap H [] := by rw [← hH]; exact va_S.rf
  refine lv_aload_n hx hb dL_bracketAt_0 rfl (lv_at hl 3 rfl) ?_
  refine lv_iconst (v := 0) hx hb dL_bracketAt_1 (by decide) ?_
  refine lv_aload_n hx hb dL_bracketAt_2 rfl (lv_at hl 0 rfl) ?_
  refine lv_iload_n hx hb dL_bracketAt_3 rfl (lv_at hl 1 rfl) ?_
  refine lv_iload_n hx hb dL_bracketAt_4 rfl (lv_at hl 2 rfl) ?_
  have hF := va_free (wc := [(h0, .inr (0, [.ref h1, .ref h2, .ref h3, .ref h4, .ref h5, .ref h6, .ref h7])), (h5, .inr (5, [.ref h1, .ref h2, .ref h4, .ref e1, .ref e2, .int 0])), (h4, .inr (4, [.ref h1, .ref h2, .ref h3, .ref d1, .ref d2, .ref d3])), (h1, .inr (1, [.ref a1, .ref a2, .ref a3, .ref a4, .ref a5, .ref a6, .int 0, .int 0]))]) hD hS hA [0, 1, 2, 3] rfl
  refine xkx_i (px := fun E => E = "java/lang/IndexOutOfBoundsException") (w1 := fun (_ : Unit) => []) (wc := [(h0, .inr (0, [.ref h1, .ref h2, .ref h3, .ref h4, .ref h5, .ref h6, .ref h7])), (h5, .inr (5, [.ref h1, .ref h2, .ref h4, .ref e1, .ref e2, .int 0])), (h4, .inr (4, [.ref h1, .ref h2, .ref h3, .ref d1, .ref d2, .ref d3])), (h1, .inr (1, [.ref a1, .ref a2, .ref a3, .ref a4, .ref a5, .ref a6, .int 0, .int 0]))]) (wr := [(h9, .inl (K 3, 1, .inr (.inl (fun _ => 0))))]) (vx_runV (As := [.int p0, .int p1]) (rest := [.int 0, .ref h9]) ⟨hx, hb, hml, hown, hts⟩ (c_X8_bracketAt l hst D K h0 h1 h2 h3 h4 h5 h6 h7 e1 e2 d1 d2 d3 a1 a2 a3 a4 a5 a6 H.size p0 p1) (cwV 2 hts xg_RL_X8_bracketAt_83 rfl rfl rfl (by decide +kernel) ⟨Nat.le_of_ble_eq_true rfl, Nat.le_of_ble_eq_true rfl⟩) ⟨xPre.blind, va_recv hK hP (ci := 0) (q0 := 0) rfl rfl, xPre.call hE hS (hP.sub [0, 1, 2, 3] rfl) (hD.sub [0, 1, 2, 3] (by decide) rfl) hF⟩ rfl rfl hl.1 rfl (lv_room (Nat.le_of_ble_eq_true rfl)) dL_bracketAt_5 ⟨Nat.le_of_ble_eq_true rfl, Nat.le_of_ble_eq_true rfl⟩) hP hD hS hF [0, 1, 2, 3] [4] rfl rfl rfl (by decide) (fun E9 ce9 q9 H locs hpx_4 hP hD hS hce hcv hcl => ?_) (fun r_2 u_1 H locs hw_3 hP hD hS => ?_)
  · obtain rfl := hpx_4
    refine vx_catch (own := RL) (name := "java/lang/IndexOutOfBoundsException") hown (tableOf []) ⟨0, 10, 13, 72⟩ (tableOf []) (htb.trans rfl) (fun z hz => absurd hz List.not_mem_nil) (by decide) (by decide) (hts _ xw31_5) (va_Nw.use rfl (hE.1.2.2.1 "java/lang/IndexOutOfBoundsException" (by decide +kernel))) hce hcv hcl ?_
    refine lv_astore (lv' := [(4, .ref q9), (0, .ref h0), (1, .int p0), (2, .int p1), (3, .ref h9)]) hx hb dL_bracketAt_13 hl (by decide) rfl (fun ls hl => ?_)
    refine lv_iconst (v := 1) hx hb dL_bracketAt_15 (by decide) ?_
    have hP9 : va_P D xCl [(h9, .inl (K 3, 1, .inr (.inl (fun _ => 0))))] H := hP.sub [0] rfl
    have hD9 : va_D A [(h9, .inl (K 3, 1, .inr (.inl (fun _ => 0))))] := hD.sub [0] (by decide) rfl
    refine W.widen (k := 1) (n := 6) (Nat.le_of_ble_eq_true rfl) (Nat.le_of_ble_eq_true rfl) ?_
    exact W.iret (v := 1) hx hb hr (fun t ht hW => ⟨⟨1, (), rfl, rfl, by rw [ht]; exact hP9, hD9⟩, hS.F ht⟩) hS.2.2 dL_bracketAt_16
  · exact hw_3.elim
set_option maxHeartbeats 4000000 in
set_option maxRecDepth 100000 in
theorem c_L_leastPenalty (l : Launch) (hst : l.stackTraces = false) (D : va_G) (K : Nat → ClassId) (h0 h9 h1 h2 h3 h4 h5 h6 h7 e1 e2 d1 d2 d3 a1 a2 a3 a4 a5 a6 : Nat) (sz : Nat) (p0 : Int32) : Met l yL_leastPenalty [.codeWith yL_leastPenalty cL_leastPenalty 4 (some .int) [(0, 9, 12, 72), (0, 9, 15, 15)]] ({ frames := 8, cells := 1, slots := 6, locals := 124 }) (xPre D K [.ref h0, .int p0, .ref h9] [(h0, .inr (0, [.ref h1, .ref h2, .ref h3, .ref h4, .ref h5, .ref h6, .ref h7])), (h5, .inr (5, [.ref h1, .ref h2, .ref h4, .ref e1, .ref e2, .int 0])), (h4, .inr (4, [.ref h1, .ref h2, .ref h3, .ref d1, .ref d2, .ref d3])), (h1, .inr (1, [.ref a1, .ref a2, .ref a3, .ref a4, .ref a5, .ref a6, .int 0, .int 0])), (h9, .inl (K 3, 1, .inr (.inl (fun _ => 0))))] sz) (va_Qi (fun (r : Int32) (u : Unit) => r = 1) (fun u t => xW D (va_A [(h0, .inr (0, [.ref h1, .ref h2, .ref h3, .ref h4, .ref h5, .ref h6, .ref h7])), (h5, .inr (5, [.ref h1, .ref h2, .ref h4, .ref e1, .ref e2, .int 0])), (h4, .inr (4, [.ref h1, .ref h2, .ref h3, .ref d1, .ref d2, .ref d3])), (h1, .inr (1, [.ref a1, .ref a2, .ref a3, .ref a4, .ref a5, .ref a6, .int 0, .int 0])), (h9, .inl (K 3, 1, .inr (.inl (fun _ => 0))))] sz) ((fun (_ : Unit) => [(h9, .inl (K 3, 1, .inr (.inl (fun _ => 0))))]) u) t) (va_A [(h0, .inr (0, [.ref h1, .ref h2, .ref h3, .ref h4, .ref h5, .ref h6, .ref h7])), (h5, .inr (5, [.ref h1, .ref h2, .ref h4, .ref e1, .ref e2, .int 0])), (h4, .inr (4, [.ref h1, .ref h2, .ref h3, .ref d1, .ref d2, .ref d3])), (h1, .inr (1, [.ref a1, .ref a2, .ref a3, .ref a4, .ref a5, .ref a6, .int 0, .int 0])), (h9, .inl (K 3, 1, .inr (.inl (fun _ => 0))))] sz)) 1 6 (va_A [(h0, .inr (0, [.ref h1, .ref h2, .ref h3, .ref h4, .ref h5, .ref h6, .ref h7])), (h5, .inr (5, [.ref h1, .ref h2, .ref h4, .ref e1, .ref e2, .int 0])), (h4, .inr (4, [.ref h1, .ref h2, .ref h3, .ref d1, .ref d2, .ref d3])), (h1, .inr (1, [.ref a1, .ref a2, .ref a3, .ref a4, .ref a5, .ref a6, .int 0, .int 0])), (h9, .inl (K 3, 1, .inr (.inl (fun _ => 0))))] sz) := by
  refine va_MetW (cc := cL_leastPenalty) (maxL := 4) (ret := (some .int)) (by decide) rfl ?_
  intro p e s m args below meth c s₁ B hml hv
  obtain ⟨rfl, hsz, hP, hD0, hE⟩ := hv
  have hx := B.exec
  have hb := B.bytes
  have hr := B.returns
  have hlocks := B.notSynchronized
  have hts := hE.1.ts ([.ref h0, .int p0, .ref h9] : List Value).toArray
  have hnt := hE.1.nt ([.ref h0, .int p0, .ref h9] : List Value).toArray
  have hK := hE.2.1
  have hown : s.vm.findClass RL = some m.cls := findClass_of_methodNamed B.named
  have htb := vx_table (x := yL_leastPenalty) B (atoms_spec (ws := [.codeWith yL_leastPenalty cL_leastPenalty 4 (some .int) [(0, 9, 12, 72), (0, 9, 15, 15)]]) B.pre _ List.mem_cons_self)
  subst hsz
  have hD := hD0.self (sz := s.heap.size)
  generalize hAe : va_A [(h0, .inr (0, [.ref h1, .ref h2, .ref h3, .ref h4, .ref h5, .ref h6, .ref h7])), (h5, .inr (5, [.ref h1, .ref h2, .ref h4, .ref e1, .ref e2, .int 0])), (h4, .inr (4, [.ref h1, .ref h2, .ref h3, .ref d1, .ref d2, .ref d3])), (h1, .inr (1, [.ref a1, .ref a2, .ref a3, .ref a4, .ref a5, .ref a6, .int 0, .int 0])), (h9, .inl (K 3, 1, .inr (.inl (fun _ => 0))))] s.heap.size = A at hD hE ⊢
  have hA : ∀ q : Nat, s.heap.size ≤ q → A q := fun q h => by rw [← hAe]; exact Or.inr h
  have hl := lv_entry ([.ref h0, .int p0, .ref h9]) (n := 4) (Nat.le_of_ble_eq_true rfl)
  rw [lg_entry_eq]
  generalize (lg_sl ([.ref h0, .int p0, .ref h9]) ++ List.replicate (4 - (lg_sl ([.ref h0, .int p0, .ref h9])).length) Slot.unset).toArray = ls at hl ⊢
  have hl : lv_has ls 4 [(0, .ref h0), (1, .int p0), (2, .ref h9)] := hl
  generalize hH : s.heap = H at hP ⊢
  have hS : va_S A s.heap H [] := by rw [← hH]; exact va_S.rf
  refine lv_aload_n hx hb dL_leastPenalty_0 rfl (lv_at hl 2 rfl) ?_
  refine lv_iconst (v := 0) hx hb dL_leastPenalty_1 (by decide) ?_
  refine lv_aload_n hx hb dL_leastPenalty_2 rfl (lv_at hl 0 rfl) ?_
  refine lv_iload_n hx hb dL_leastPenalty_3 rfl (lv_at hl 1 rfl) ?_
  have hF := va_free (wc := [(h0, .inr (0, [.ref h1, .ref h2, .ref h3, .ref h4, .ref h5, .ref h6, .ref h7])), (h5, .inr (5, [.ref h1, .ref h2, .ref h4, .ref e1, .ref e2, .int 0])), (h4, .inr (4, [.ref h1, .ref h2, .ref h3, .ref d1, .ref d2, .ref d3])), (h1, .inr (1, [.ref a1, .ref a2, .ref a3, .ref a4, .ref a5, .ref a6, .int 0, .int 0]))]) hD hS hA [0, 1, 2, 3] rfl
  refine xkx_i (px := fun E => E = "java/lang/IndexOutOfBoundsException") (w1 := fun (_ : Unit) => []) (wc := [(h0, .inr (0, [.ref h1, .ref h2, .ref h3, .ref h4, .ref h5, .ref h6, .ref h7])), (h5, .inr (5, [.ref h1, .ref h2, .ref h4, .ref e1, .ref e2, .int 0])), (h4, .inr (4, [.ref h1, .ref h2, .ref h3, .ref d1, .ref d2, .ref d3])), (h1, .inr (1, [.ref a1, .ref a2, .ref a3, .ref a4, .ref a5, .ref a6, .int 0, .int 0]))]) (wr := [(h9, .inl (K 3, 1, .inr (.inl (fun _ => 0))))]) (vx_runV (As := [.int p0]) (rest := [.int 0, .ref h9]) ⟨hx, hb, hml, hown, hts⟩ (c_X8_leastPenalty l hst D K h0 h1 h2 h3 h4 h5 h6 h7 e1 e2 d1 d2 d3 a1 a2 a3 a4 a5 a6 H.size p0) (cwV 1 hts xg_RL_X8_leastPenalty_86 rfl rfl rfl (by decide +kernel) ⟨Nat.le_of_ble_eq_true rfl, Nat.le_of_ble_eq_true rfl⟩) ⟨xPre.blind, va_recv hK hP (ci := 0) (q0 := 0) rfl rfl, xPre.call hE hS (hP.sub [0, 1, 2, 3] rfl) (hD.sub [0, 1, 2, 3] (by decide) rfl) hF⟩ rfl rfl hl.1 rfl (lv_room (Nat.le_of_ble_eq_true rfl)) dL_leastPenalty_4 ⟨Nat.le_of_ble_eq_true rfl, Nat.le_of_ble_eq_true rfl⟩) hP hD hS hF [0, 1, 2, 3] [4] rfl rfl rfl (by decide) (fun E9 ce9 q9 H locs hpx_4 hP hD hS hce hcv hcl => ?_) (fun r_2 u_1 H locs hw_3 hP hD hS => ?_)
  · obtain rfl := hpx_4
    refine vx_catch (own := RL) (name := "java/lang/IndexOutOfBoundsException") hown (tableOf []) ⟨0, 9, 12, 72⟩ (tableOf [(0, 9, 15, 15)]) (htb.trans rfl) (fun z hz => absurd hz List.not_mem_nil) (by decide) (by decide) (hts _ xw31_5) (va_Nw.use rfl (hE.1.2.2.1 "java/lang/IndexOutOfBoundsException" (by decide +kernel))) hce hcv hcl ?_
    refine lv_astore_n (lv' := [(3, .ref q9), (0, .ref h0), (1, .int p0), (2, .ref h9)]) hx hb dL_leastPenalty_12 rfl hl (by decide) rfl (fun ls hl => ?_)
    refine lv_iconst (v := 1) hx hb dL_leastPenalty_13 (by decide) ?_
    have hP9 : va_P D xCl [(h9, .inl (K 3, 1, .inr (.inl (fun _ => 0))))] H := hP.sub [0] rfl
    have hD9 : va_D A [(h9, .inl (K 3, 1, .inr (.inl (fun _ => 0))))] := hD.sub [0] (by decide) rfl
    refine W.widen (k := 1) (n := 6) (Nat.le_of_ble_eq_true rfl) (Nat.le_of_ble_eq_true rfl) ?_
    exact W.iret (v := 1) hx hb hr (fun t ht hW => ⟨⟨1, (), rfl, rfl, by rw [ht]; exact hP9, hD9⟩, hS.F ht⟩) hS.2.2 dL_leastPenalty_14
  · exact hw_3.elim
set_option maxHeartbeats 4000000 in
set_option maxRecDepth 100000 in
theorem c_L_leastByTrying (l : Launch) (hst : l.stackTraces = false) (D : va_G) (K : Nat → ClassId) (h0 h9 h1 h2 h3 h4 h5 h6 h7 e1 e2 d1 d2 d3 a1 a2 a3 a4 a5 a6 : Nat) (sz : Nat) (p0 : Int32) : Met l yL_leastByTrying [.codeWith yL_leastByTrying cL_leastByTrying 4 (some .int) [(0, 9, 12, 72), (0, 9, 15, 15), (0, 9, 18, 37)]] ({ frames := 8, cells := 1, slots := 6, locals := 124 }) (xPre D K [.ref h0, .int p0, .ref h9] [(h0, .inr (0, [.ref h1, .ref h2, .ref h3, .ref h4, .ref h5, .ref h6, .ref h7])), (h5, .inr (5, [.ref h1, .ref h2, .ref h4, .ref e1, .ref e2, .int 0])), (h4, .inr (4, [.ref h1, .ref h2, .ref h3, .ref d1, .ref d2, .ref d3])), (h1, .inr (1, [.ref a1, .ref a2, .ref a3, .ref a4, .ref a5, .ref a6, .int 0, .int 0])), (h9, .inl (K 3, 1, .inr (.inl (fun _ => 0))))] sz) (va_Qi (fun (r : Int32) (u : Unit) => r = 1) (fun u t => xW D (va_A [(h0, .inr (0, [.ref h1, .ref h2, .ref h3, .ref h4, .ref h5, .ref h6, .ref h7])), (h5, .inr (5, [.ref h1, .ref h2, .ref h4, .ref e1, .ref e2, .int 0])), (h4, .inr (4, [.ref h1, .ref h2, .ref h3, .ref d1, .ref d2, .ref d3])), (h1, .inr (1, [.ref a1, .ref a2, .ref a3, .ref a4, .ref a5, .ref a6, .int 0, .int 0])), (h9, .inl (K 3, 1, .inr (.inl (fun _ => 0))))] sz) ((fun (_ : Unit) => [(h9, .inl (K 3, 1, .inr (.inl (fun _ => 0))))]) u) t) (va_A [(h0, .inr (0, [.ref h1, .ref h2, .ref h3, .ref h4, .ref h5, .ref h6, .ref h7])), (h5, .inr (5, [.ref h1, .ref h2, .ref h4, .ref e1, .ref e2, .int 0])), (h4, .inr (4, [.ref h1, .ref h2, .ref h3, .ref d1, .ref d2, .ref d3])), (h1, .inr (1, [.ref a1, .ref a2, .ref a3, .ref a4, .ref a5, .ref a6, .int 0, .int 0])), (h9, .inl (K 3, 1, .inr (.inl (fun _ => 0))))] sz)) 1 6 (va_A [(h0, .inr (0, [.ref h1, .ref h2, .ref h3, .ref h4, .ref h5, .ref h6, .ref h7])), (h5, .inr (5, [.ref h1, .ref h2, .ref h4, .ref e1, .ref e2, .int 0])), (h4, .inr (4, [.ref h1, .ref h2, .ref h3, .ref d1, .ref d2, .ref d3])), (h1, .inr (1, [.ref a1, .ref a2, .ref a3, .ref a4, .ref a5, .ref a6, .int 0, .int 0])), (h9, .inl (K 3, 1, .inr (.inl (fun _ => 0))))] sz) := by
  refine va_MetW (cc := cL_leastByTrying) (maxL := 4) (ret := (some .int)) (by decide) rfl ?_
  intro p e s m args below meth c s₁ B hml hv
  obtain ⟨rfl, hsz, hP, hD0, hE⟩ := hv
  have hx := B.exec
  have hb := B.bytes
  have hr := B.returns
  have hlocks := B.notSynchronized
  have hts := hE.1.ts ([.ref h0, .int p0, .ref h9] : List Value).toArray
  have hnt := hE.1.nt ([.ref h0, .int p0, .ref h9] : List Value).toArray
  have hK := hE.2.1
  have hown : s.vm.findClass RL = some m.cls := findClass_of_methodNamed B.named
  have htb := vx_table (x := yL_leastByTrying) B (atoms_spec (ws := [.codeWith yL_leastByTrying cL_leastByTrying 4 (some .int) [(0, 9, 12, 72), (0, 9, 15, 15), (0, 9, 18, 37)]]) B.pre _ List.mem_cons_self)
  subst hsz
  have hD := hD0.self (sz := s.heap.size)
  generalize hAe : va_A [(h0, .inr (0, [.ref h1, .ref h2, .ref h3, .ref h4, .ref h5, .ref h6, .ref h7])), (h5, .inr (5, [.ref h1, .ref h2, .ref h4, .ref e1, .ref e2, .int 0])), (h4, .inr (4, [.ref h1, .ref h2, .ref h3, .ref d1, .ref d2, .ref d3])), (h1, .inr (1, [.ref a1, .ref a2, .ref a3, .ref a4, .ref a5, .ref a6, .int 0, .int 0])), (h9, .inl (K 3, 1, .inr (.inl (fun _ => 0))))] s.heap.size = A at hD hE ⊢
  have hA : ∀ q : Nat, s.heap.size ≤ q → A q := fun q h => by rw [← hAe]; exact Or.inr h
  have hl := lv_entry ([.ref h0, .int p0, .ref h9]) (n := 4) (Nat.le_of_ble_eq_true rfl)
  rw [lg_entry_eq]
  generalize (lg_sl ([.ref h0, .int p0, .ref h9]) ++ List.replicate (4 - (lg_sl ([.ref h0, .int p0, .ref h9])).length) Slot.unset).toArray = ls at hl ⊢
  have hl : lv_has ls 4 [(0, .ref h0), (1, .int p0), (2, .ref h9)] := hl
  generalize hH : s.heap = H at hP ⊢
  have hS : va_S A s.heap H [] := by rw [← hH]; exact va_S.rf
  refine lv_aload_n hx hb dL_leastByTrying_0 rfl (lv_at hl 2 rfl) ?_
  refine lv_iconst (v := 0) hx hb dL_leastByTrying_1 (by decide) ?_
  refine lv_aload_n hx hb dL_leastByTrying_2 rfl (lv_at hl 0 rfl) ?_
  refine lv_iload_n hx hb dL_leastByTrying_3 rfl (lv_at hl 1 rfl) ?_
  have hF := va_free (wc := [(h0, .inr (0, [.ref h1, .ref h2, .ref h3, .ref h4, .ref h5, .ref h6, .ref h7])), (h5, .inr (5, [.ref h1, .ref h2, .ref h4, .ref e1, .ref e2, .int 0])), (h4, .inr (4, [.ref h1, .ref h2, .ref h3, .ref d1, .ref d2, .ref d3])), (h1, .inr (1, [.ref a1, .ref a2, .ref a3, .ref a4, .ref a5, .ref a6, .int 0, .int 0]))]) hD hS hA [0, 1, 2, 3] rfl
  refine xkx_i (px := fun E => E = "java/lang/IndexOutOfBoundsException") (w1 := fun (_ : Unit) => []) (wc := [(h0, .inr (0, [.ref h1, .ref h2, .ref h3, .ref h4, .ref h5, .ref h6, .ref h7])), (h5, .inr (5, [.ref h1, .ref h2, .ref h4, .ref e1, .ref e2, .int 0])), (h4, .inr (4, [.ref h1, .ref h2, .ref h3, .ref d1, .ref d2, .ref d3])), (h1, .inr (1, [.ref a1, .ref a2, .ref a3, .ref a4, .ref a5, .ref a6, .int 0, .int 0]))]) (wr := [(h9, .inl (K 3, 1, .inr (.inl (fun _ => 0))))]) (vx_runV (As := [.int p0]) (rest := [.int 0, .ref h9]) ⟨hx, hb, hml, hown, hts⟩ (c_X8_leastByTrying l hst D K h0 h1 h2 h3 h4 h5 h6 h7 e1 e2 d1 d2 d3 a1 a2 a3 a4 a5 a6 H.size p0) (cwV 1 hts xg_RL_X8_leastByTrying_89 rfl rfl rfl (by decide +kernel) ⟨Nat.le_of_ble_eq_true rfl, Nat.le_of_ble_eq_true rfl⟩) ⟨xPre.blind, va_recv hK hP (ci := 0) (q0 := 0) rfl rfl, xPre.call hE hS (hP.sub [0, 1, 2, 3] rfl) (hD.sub [0, 1, 2, 3] (by decide) rfl) hF⟩ rfl rfl hl.1 rfl (lv_room (Nat.le_of_ble_eq_true rfl)) dL_leastByTrying_4 ⟨Nat.le_of_ble_eq_true rfl, Nat.le_of_ble_eq_true rfl⟩) hP hD hS hF [0, 1, 2, 3] [4] rfl rfl rfl (by decide) (fun E9 ce9 q9 H locs hpx_4 hP hD hS hce hcv hcl => ?_) (fun r_2 u_1 H locs hw_3 hP hD hS => ?_)
  · obtain rfl := hpx_4
    refine vx_catch (own := RL) (name := "java/lang/IndexOutOfBoundsException") hown (tableOf []) ⟨0, 9, 12, 72⟩ (tableOf [(0, 9, 15, 15), (0, 9, 18, 37)]) (htb.trans rfl) (fun z hz => absurd hz List.not_mem_nil) (by decide) (by decide) (hts _ xw31_5) (va_Nw.use rfl (hE.1.2.2.1 "java/lang/IndexOutOfBoundsException" (by decide +kernel))) hce hcv hcl ?_
    refine lv_astore_n (lv' := [(3, .ref q9), (0, .ref h0), (1, .int p0), (2, .ref h9)]) hx hb dL_leastByTrying_12 rfl hl (by decide) rfl (fun ls hl => ?_)
    refine lv_iconst (v := 1) hx hb dL_leastByTrying_13 (by decide) ?_
    have hP9 : va_P D xCl [(h9, .inl (K 3, 1, .inr (.inl (fun _ => 0))))] H := hP.sub [0] rfl
    have hD9 : va_D A [(h9, .inl (K 3, 1, .inr (.inl (fun _ => 0))))] := hD.sub [0] (by decide) rfl
    refine W.widen (k := 1) (n := 6) (Nat.le_of_ble_eq_true rfl) (Nat.le_of_ble_eq_true rfl) ?_
    exact W.iret (v := 1) hx hb hr (fun t ht hW => ⟨⟨1, (), rfl, rfl, by rw [ht]; exact hP9, hD9⟩, hS.F ht⟩) hS.2.2 dL_leastByTrying_14
  · exact hw_3.elim
set_option maxHeartbeats 4000000 in
set_option maxRecDepth 100000 in
theorem c_L_opponent (l : Launch) (hst : l.stackTraces = false) (D : va_G) (K : Nat → ClassId) (h0 h9 h1 h2 h3 h4 h5 h6 h7 e1 e2 d1 d2 d3 a1 a2 a3 a4 a5 a6 : Nat) (sz : Nat) (p0 p1 : Int32) : Met l yL_opponent [.codeWith yL_opponent cL_opponent 5 (some .int) [(0, 10, 13, 72), (0, 10, 17, 15)]] ({ frames := 8, cells := 1, slots := 6, locals := 125 }) (xPre D K [.ref h0, .int p0, .int p1, .ref h9] [(h0, .inr (0, [.ref h1, .ref h2, .ref h3, .ref h4, .ref h5, .ref h6, .ref h7])), (h5, .inr (5, [.ref h1, .ref h2, .ref h4, .ref e1, .ref e2, .int 0])), (h4, .inr (4, [.ref h1, .ref h2, .ref h3, .ref d1, .ref d2, .ref d3])), (h1, .inr (1, [.ref a1, .ref a2, .ref a3, .ref a4, .ref a5, .ref a6, .int 0, .int 0])), (h9, .inl (K 3, 1, .inr (.inl (fun _ => 0))))] sz) (va_Qi (fun (r : Int32) (u : Unit) => r = 1) (fun u t => xW D (va_A [(h0, .inr (0, [.ref h1, .ref h2, .ref h3, .ref h4, .ref h5, .ref h6, .ref h7])), (h5, .inr (5, [.ref h1, .ref h2, .ref h4, .ref e1, .ref e2, .int 0])), (h4, .inr (4, [.ref h1, .ref h2, .ref h3, .ref d1, .ref d2, .ref d3])), (h1, .inr (1, [.ref a1, .ref a2, .ref a3, .ref a4, .ref a5, .ref a6, .int 0, .int 0])), (h9, .inl (K 3, 1, .inr (.inl (fun _ => 0))))] sz) ((fun (_ : Unit) => [(h9, .inl (K 3, 1, .inr (.inl (fun _ => 0))))]) u) t) (va_A [(h0, .inr (0, [.ref h1, .ref h2, .ref h3, .ref h4, .ref h5, .ref h6, .ref h7])), (h5, .inr (5, [.ref h1, .ref h2, .ref h4, .ref e1, .ref e2, .int 0])), (h4, .inr (4, [.ref h1, .ref h2, .ref h3, .ref d1, .ref d2, .ref d3])), (h1, .inr (1, [.ref a1, .ref a2, .ref a3, .ref a4, .ref a5, .ref a6, .int 0, .int 0])), (h9, .inl (K 3, 1, .inr (.inl (fun _ => 0))))] sz)) 1 6 (va_A [(h0, .inr (0, [.ref h1, .ref h2, .ref h3, .ref h4, .ref h5, .ref h6, .ref h7])), (h5, .inr (5, [.ref h1, .ref h2, .ref h4, .ref e1, .ref e2, .int 0])), (h4, .inr (4, [.ref h1, .ref h2, .ref h3, .ref d1, .ref d2, .ref d3])), (h1, .inr (1, [.ref a1, .ref a2, .ref a3, .ref a4, .ref a5, .ref a6, .int 0, .int 0])), (h9, .inl (K 3, 1, .inr (.inl (fun _ => 0))))] sz) := by
  refine va_MetW (cc := cL_opponent) (maxL := 5) (ret := (some .int)) (by decide) rfl ?_
  intro p e s m args below meth c s₁ B hml hv
  obtain ⟨rfl, hsz, hP, hD0, hE⟩ := hv
  have hx := B.exec
  have hb := B.bytes
  have hr := B.returns
  have hlocks := B.notSynchronized
  have hts := hE.1.ts ([.ref h0, .int p0, .int p1, .ref h9] : List Value).toArray
  have hnt := hE.1.nt ([.ref h0, .int p0, .int p1, .ref h9] : List Value).toArray
  have hK := hE.2.1
  have hown : s.vm.findClass RL = some m.cls := findClass_of_methodNamed B.named
  have htb := vx_table (x := yL_opponent) B (atoms_spec (ws := [.codeWith yL_opponent cL_opponent 5 (some .int) [(0, 10, 13, 72), (0, 10, 17, 15)]]) B.pre _ List.mem_cons_self)
  subst hsz
  have hD := hD0.self (sz := s.heap.size)
  generalize hAe : va_A [(h0, .inr (0, [.ref h1, .ref h2, .ref h3, .ref h4, .ref h5, .ref h6, .ref h7])), (h5, .inr (5, [.ref h1, .ref h2, .ref h4, .ref e1, .ref e2, .int 0])), (h4, .inr (4, [.ref h1, .ref h2, .ref h3, .ref d1, .ref d2, .ref d3])), (h1, .inr (1, [.ref a1, .ref a2, .ref a3, .ref a4, .ref a5, .ref a6, .int 0, .int 0])), (h9, .inl (K 3, 1, .inr (.inl (fun _ => 0))))] s.heap.size = A at hD hE ⊢
  have hA : ∀ q : Nat, s.heap.size ≤ q → A q := fun q h => by rw [← hAe]; exact Or.inr h
  have hl := lv_entry ([.ref h0, .int p0, .int p1, .ref h9]) (n := 5) (Nat.le_of_ble_eq_true rfl)
  rw [lg_entry_eq]
  generalize (lg_sl ([.ref h0, .int p0, .int p1, .ref h9]) ++ List.replicate (5 - (lg_sl ([.ref h0, .int p0, .int p1, .ref h9])).length) Slot.unset).toArray = ls at hl ⊢
  have hl : lv_has ls 5 [(0, .ref h0), (1, .int p0), (2, .int p1), (3, .ref h9)] := hl
  generalize hH : s.heap = H at hP ⊢
  have hS : va_S A s.heap H [] := by rw [← hH]; exact va_S.rf
  refine lv_aload_n hx hb dL_opponent_0 rfl (lv_at hl 3 rfl) ?_
  refine lv_iconst (v := 0) hx hb dL_opponent_1 (by decide) ?_
  refine lv_aload_n hx hb dL_opponent_2 rfl (lv_at hl 0 rfl) ?_
  refine lv_iload_n hx hb dL_opponent_3 rfl (lv_at hl 1 rfl) ?_
  refine lv_iload_n hx hb dL_opponent_4 rfl (lv_at hl 2 rfl) ?_
  have hF := va_free (wc := [(h0, .inr (0, [.ref h1, .ref h2, .ref h3, .ref h4, .ref h5, .ref h6, .ref h7])), (h5, .inr (5, [.ref h1, .ref h2, .ref h4, .ref e1, .ref e2, .int 0])), (h4, .inr (4, [.ref h1, .ref h2, .ref h3, .ref d1, .ref d2, .ref d3])), (h1, .inr (1, [.ref a1, .ref a2, .ref a3, .ref a4, .ref a5, .ref a6, .int 0, .int 0]))]) hD hS hA [0, 1, 2, 3] rfl
  refine xkx_i (px := fun E => E = "java/lang/IndexOutOfBoundsException") (w1 := fun (_ : Unit) => []) (wc := [(h0, .inr (0, [.ref h1, .ref h2, .ref h3, .ref h4, .ref h5, .ref h6, .ref h7])), (h5, .inr (5, [.ref h1, .ref h2, .ref h4, .ref e1, .ref e2, .int 0])), (h4, .inr (4, [.ref h1, .ref h2, .ref h3, .ref d1, .ref d2, .ref d3])), (h1, .inr (1, [.ref a1, .ref a2, .ref a3, .ref a4, .ref a5, .ref a6, .int 0, .int 0]))]) (wr := [(h9, .inl (K 3, 1, .inr (.inl (fun _ => 0))))]) (vx_runV (As := [.int p0, .int p1]) (rest := [.int 0, .ref h9]) ⟨hx, hb, hml, hown, hts⟩ (c_X8_opponent l hst D K h0 h1 h2 h3 h4 h5 h6 h7 e1 e2 d1 d2 d3 a1 a2 a3 a4 a5 a6 H.size p0 p1) (cwV 2 hts xg_RL_X8_opponent_92 rfl rfl rfl (by decide +kernel) ⟨Nat.le_of_ble_eq_true rfl, Nat.le_of_ble_eq_true rfl⟩) ⟨xPre.blind, va_recv hK hP (ci := 0) (q0 := 0) rfl rfl, xPre.call hE hS (hP.sub [0, 1, 2, 3] rfl) (hD.sub [0, 1, 2, 3] (by decide) rfl) hF⟩ rfl rfl hl.1 rfl (lv_room (Nat.le_of_ble_eq_true rfl)) dL_opponent_5 ⟨Nat.le_of_ble_eq_true rfl, Nat.le_of_ble_eq_true rfl⟩) hP hD hS hF [0, 1, 2, 3] [4] rfl rfl rfl (by decide) (fun E9 ce9 q9 H locs hpx_4 hP hD hS hce hcv hcl => ?_) (fun r_2 u_1 H locs hw_3 hP hD hS => ?_)
  · obtain rfl := hpx_4
    refine vx_catch (own := RL) (name := "java/lang/IndexOutOfBoundsException") hown (tableOf []) ⟨0, 10, 13, 72⟩ (tableOf [(0, 10, 17, 15)]) (htb.trans rfl) (fun z hz => absurd hz List.not_mem_nil) (by decide) (by decide) (hts _ xw31_5) (va_Nw.use rfl (hE.1.2.2.1 "java/lang/IndexOutOfBoundsException" (by decide +kernel))) hce hcv hcl ?_
    refine lv_astore (lv' := [(4, .ref q9), (0, .ref h0), (1, .int p0), (2, .int p1), (3, .ref h9)]) hx hb dL_opponent_13 hl (by decide) rfl (fun ls hl => ?_)
    refine lv_iconst (v := 1) hx hb dL_opponent_15 (by decide) ?_
    have hP9 : va_P D xCl [(h9, .inl (K 3, 1, .inr (.inl (fun _ => 0))))] H := hP.sub [0] rfl
    have hD9 : va_D A [(h9, .inl (K 3, 1, .inr (.inl (fun _ => 0))))] := hD.sub [0] (by decide) rfl
    refine W.widen (k := 1) (n := 6) (Nat.le_of_ble_eq_true rfl) (Nat.le_of_ble_eq_true rfl) ?_
    exact W.iret (v := 1) hx hb hr (fun t ht hW => ⟨⟨1, (), rfl, rfl, by rw [ht]; exact hP9, hD9⟩, hS.F ht⟩) hS.2.2 dL_opponent_16
  · exact hw_3.elim
set_option maxHeartbeats 4000000 in
set_option maxRecDepth 100000 in
theorem c_L_rooms (l : Launch) (hst : l.stackTraces = false) (D : va_G) (K : Nat → ClassId) (h0 h9 h1 h2 h3 h4 h5 h6 h7 c1 : Nat) (sz : Nat) (p0 : Int32) : Met l yL_rooms [.codeWith yL_rooms cL_rooms 4 (some .int) [(0, 9, 12, 24)]] ({ frames := 8, cells := 1, slots := 6, locals := 124 }) (xPre D K [.ref h0, .int p0, .ref h9] [(h0, .inr (0, [.ref h1, .ref h2, .ref h3, .ref h4, .ref h5, .ref h6, .ref h7])), (h3, .inr (3, [.ref h1, .ref c1, .int 0])), (h9, .inl (K 3, 1, .inr (.inl (fun _ => 0))))] sz) (va_Qi (fun (r : Int32) (u : Unit) => r = 1) (fun u t => xW D (va_A [(h0, .inr (0, [.ref h1, .ref h2, .ref h3, .ref h4, .ref h5, .ref h6, .ref h7])), (h3, .inr (3, [.ref h1, .ref c1, .int 0])), (h9, .inl (K 3, 1, .inr (.inl (fun _ => 0))))] sz) ((fun (_ : Unit) => [(h9, .inl (K 3, 1, .inr (.inl (fun _ => 0))))]) u) t) (va_A [(h0, .inr (0, [.ref h1, .ref h2, .ref h3, .ref h4, .ref h5, .ref h6, .ref h7])), (h3, .inr (3, [.ref h1, .ref c1, .int 0])), (h9, .inl (K 3, 1, .inr (.inl (fun _ => 0))))] sz)) 1 6 (va_A [(h0, .inr (0, [.ref h1, .ref h2, .ref h3, .ref h4, .ref h5, .ref h6, .ref h7])), (h3, .inr (3, [.ref h1, .ref c1, .int 0])), (h9, .inl (K 3, 1, .inr (.inl (fun _ => 0))))] sz) := by
  refine va_MetW (cc := cL_rooms) (maxL := 4) (ret := (some .int)) (by decide) rfl ?_
  intro p e s m args below meth c s₁ B hml hv
  obtain ⟨rfl, hsz, hP, hD0, hE⟩ := hv
  have hx := B.exec
  have hb := B.bytes
  have hr := B.returns
  have hlocks := B.notSynchronized
  have hts := hE.1.ts ([.ref h0, .int p0, .ref h9] : List Value).toArray
  have hnt := hE.1.nt ([.ref h0, .int p0, .ref h9] : List Value).toArray
  have hK := hE.2.1
  have hown : s.vm.findClass RL = some m.cls := findClass_of_methodNamed B.named
  have htb := vx_table (x := yL_rooms) B (atoms_spec (ws := [.codeWith yL_rooms cL_rooms 4 (some .int) [(0, 9, 12, 24)]]) B.pre _ List.mem_cons_self)
  subst hsz
  have hD := hD0.self (sz := s.heap.size)
  generalize hAe : va_A [(h0, .inr (0, [.ref h1, .ref h2, .ref h3, .ref h4, .ref h5, .ref h6, .ref h7])), (h3, .inr (3, [.ref h1, .ref c1, .int 0])), (h9, .inl (K 3, 1, .inr (.inl (fun _ => 0))))] s.heap.size = A at hD hE ⊢
  have hA : ∀ q : Nat, s.heap.size ≤ q → A q := fun q h => by rw [← hAe]; exact Or.inr h
  have hl := lv_entry ([.ref h0, .int p0, .ref h9]) (n := 4) (Nat.le_of_ble_eq_true rfl)
  rw [lg_entry_eq]
  generalize (lg_sl ([.ref h0, .int p0, .ref h9]) ++ List.replicate (4 - (lg_sl ([.ref h0, .int p0, .ref h9])).length) Slot.unset).toArray = ls at hl ⊢
  have hl : lv_has ls 4 [(0, .ref h0), (1, .int p0), (2, .ref h9)] := hl
  generalize hH : s.heap = H at hP ⊢
  have hS : va_S A s.heap H [] := by rw [← hH]; exact va_S.rf
  refine lv_aload_n hx hb dL_rooms_0 rfl (lv_at hl 2 rfl) ?_
  refine lv_iconst (v := 0) hx hb dL_rooms_1 (by decide) ?_
  refine lv_aload_n hx hb dL_rooms_2 rfl (lv_at hl 0 rfl) ?_
  refine lv_iload_n hx hb dL_rooms_3 rfl (lv_at hl 1 rfl) ?_
  have hF := va_free (wc := [(h0, .inr (0, [.ref h1, .ref h2, .ref h3, .ref h4, .ref h5, .ref h6, .ref h7])), (h3, .inr (3, [.ref h1, .ref c1, .int 0]))]) hD hS hA [0, 1] rfl
  refine xkx_i (px := fun E => E = "java/util/NoSuchElementException") (w1 := fun (_ : Unit) => []) (wc := [(h0, .inr (0, [.ref h1, .ref h2, .ref h3, .ref h4, .ref h5, .ref h6, .ref h7])), (h3, .inr (3, [.ref h1, .ref c1, .int 0]))]) (wr := [(h9, .inl (K 3, 1, .inr (.inl (fun _ => 0))))]) (vx_runV (As := [.int p0]) (rest := [.int 0, .ref h9]) ⟨hx, hb, hml, hown, hts⟩ (c_X8_rooms l hst D K h0 h1 h2 h3 h4 h5 h6 h7 c1 H.size p0) (cwV 1 hts xg_RL_X8_rooms_95 rfl rfl rfl (by decide +kernel) ⟨Nat.le_of_ble_eq_true rfl, Nat.le_of_ble_eq_true rfl⟩) ⟨xPre.blind, va_recv hK hP (ci := 0) (q0 := 0) rfl rfl, xPre.call hE hS (hP.sub [0, 1] rfl) (hD.sub [0, 1] (by decide) rfl) hF⟩ rfl rfl hl.1 rfl (lv_room (Nat.le_of_ble_eq_true rfl)) dL_rooms_4 ⟨Nat.le_of_ble_eq_true rfl, Nat.le_of_ble_eq_true rfl⟩) hP hD hS hF [0, 1] [2] rfl rfl rfl (by decide) (fun E9 ce9 q9 H locs hpx_4 hP hD hS hce hcv hcl => ?_) (fun r_2 u_1 H locs hw_3 hP hD hS => ?_)
  · obtain rfl := hpx_4
    refine vx_catch (own := RL) (name := "java/util/NoSuchElementException") hown (tableOf []) ⟨0, 9, 12, 24⟩ (tableOf []) (htb.trans rfl) (fun z hz => absurd hz List.not_mem_nil) (by decide) (by decide) (hts _ xw9_7) (va_Nw.use rfl (hE.1.2.2.1 "java/util/NoSuchElementException" (by decide +kernel))) hce hcv hcl ?_
    refine lv_astore_n (lv' := [(3, .ref q9), (0, .ref h0), (1, .int p0), (2, .ref h9)]) hx hb dL_rooms_12 rfl hl (by decide) rfl (fun ls hl => ?_)
    refine lv_iconst (v := 1) hx hb dL_rooms_13 (by decide) ?_
    have hP9 : va_P D xCl [(h9, .inl (K 3, 1, .inr (.inl (fun _ => 0))))] H := hP.sub [0] rfl
    have hD9 : va_D A [(h9, .inl (K 3, 1, .inr (.inl (fun _ => 0))))] := hD.sub [0] (by decide) rfl
    refine W.widen (k := 1) (n := 6) (Nat.le_of_ble_eq_true rfl) (Nat.le_of_ble_eq_true rfl) ?_
    exact W.iret (v := 1) hx hb hr (fun t ht hW => ⟨⟨1, (), rfl, rfl, by rw [ht]; exact hP9, hD9⟩, hS.F ht⟩) hS.2.2 dL_rooms_14
  · exact hw_3.elim
set_option maxHeartbeats 4000000 in
set_option maxRecDepth 100000 in
theorem c_L_teamIn (l : Launch) (hst : l.stackTraces = false) (D : va_G) (K : Nat → ClassId) (h0 h9 h1 h2 h3 h4 h5 h6 h7 c1 : Nat) (sz : Nat) (p0 p1 p2 : Int32) : Met l yL_teamIn [.codeWith yL_teamIn cL_teamIn 6 (some .int) [(0, 12, 15, 24), (0, 12, 19, 13)]] ({ frames := 8, cells := 1, slots := 6, locals := 127 }) (xPre D K [.ref h0, .int p0, .int p1, .int p2, .ref h9] [(h0, .inr (0, [.ref h1, .ref h2, .ref h3, .ref h4, .ref h5, .ref h6, .ref h7])), (h3, .inr (3, [.ref h1, .ref c1, .int 0])), (h9, .inl (K 3, 1, .inr (.inl (fun _ => 0))))] sz) (va_Qi (fun (r : Int32) (u : Unit) => r = 1) (fun u t => xW D (va_A [(h0, .inr (0, [.ref h1, .ref h2, .ref h3, .ref h4, .ref h5, .ref h6, .ref h7])), (h3, .inr (3, [.ref h1, .ref c1, .int 0])), (h9, .inl (K 3, 1, .inr (.inl (fun _ => 0))))] sz) ((fun (_ : Unit) => [(h9, .inl (K 3, 1, .inr (.inl (fun _ => 0))))]) u) t) (va_A [(h0, .inr (0, [.ref h1, .ref h2, .ref h3, .ref h4, .ref h5, .ref h6, .ref h7])), (h3, .inr (3, [.ref h1, .ref c1, .int 0])), (h9, .inl (K 3, 1, .inr (.inl (fun _ => 0))))] sz)) 1 6 (va_A [(h0, .inr (0, [.ref h1, .ref h2, .ref h3, .ref h4, .ref h5, .ref h6, .ref h7])), (h3, .inr (3, [.ref h1, .ref c1, .int 0])), (h9, .inl (K 3, 1, .inr (.inl (fun _ => 0))))] sz) := by
  refine va_MetW (cc := cL_teamIn) (maxL := 6) (ret := (some .int)) (by decide) rfl ?_
  intro p e s m args below meth c s₁ B hml hv
  obtain ⟨rfl, hsz, hP, hD0, hE⟩ := hv
  have hx := B.exec
  have hb := B.bytes
  have hr := B.returns
  have hlocks := B.notSynchronized
  have hts := hE.1.ts ([.ref h0, .int p0, .int p1, .int p2, .ref h9] : List Value).toArray
  have hnt := hE.1.nt ([.ref h0, .int p0, .int p1, .int p2, .ref h9] : List Value).toArray
  have hK := hE.2.1
  have hown : s.vm.findClass RL = some m.cls := findClass_of_methodNamed B.named
  have htb := vx_table (x := yL_teamIn) B (atoms_spec (ws := [.codeWith yL_teamIn cL_teamIn 6 (some .int) [(0, 12, 15, 24), (0, 12, 19, 13)]]) B.pre _ List.mem_cons_self)
  subst hsz
  have hD := hD0.self (sz := s.heap.size)
  generalize hAe : va_A [(h0, .inr (0, [.ref h1, .ref h2, .ref h3, .ref h4, .ref h5, .ref h6, .ref h7])), (h3, .inr (3, [.ref h1, .ref c1, .int 0])), (h9, .inl (K 3, 1, .inr (.inl (fun _ => 0))))] s.heap.size = A at hD hE ⊢
  have hA : ∀ q : Nat, s.heap.size ≤ q → A q := fun q h => by rw [← hAe]; exact Or.inr h
  have hl := lv_entry ([.ref h0, .int p0, .int p1, .int p2, .ref h9]) (n := 6) (Nat.le_of_ble_eq_true rfl)
  rw [lg_entry_eq]
  generalize (lg_sl ([.ref h0, .int p0, .int p1, .int p2, .ref h9]) ++ List.replicate (6 - (lg_sl ([.ref h0, .int p0, .int p1, .int p2, .ref h9])).length) Slot.unset).toArray = ls at hl ⊢
  have hl : lv_has ls 6 [(0, .ref h0), (1, .int p0), (2, .int p1), (3, .int p2), (4, .ref h9)] := hl
  generalize hH : s.heap = H at hP ⊢
  have hS : va_S A s.heap H [] := by rw [← hH]; exact va_S.rf
  refine lv_aload hx hb dL_teamIn_0 (lv_at hl 4 rfl) ?_
  refine lv_iconst (v := 0) hx hb dL_teamIn_2 (by decide) ?_
  refine lv_aload_n hx hb dL_teamIn_3 rfl (lv_at hl 0 rfl) ?_
  refine lv_iload_n hx hb dL_teamIn_4 rfl (lv_at hl 1 rfl) ?_
  refine lv_iload_n hx hb dL_teamIn_5 rfl (lv_at hl 2 rfl) ?_
  refine lv_iload_n hx hb dL_teamIn_6 rfl (lv_at hl 3 rfl) ?_
  have hF := va_free (wc := [(h0, .inr (0, [.ref h1, .ref h2, .ref h3, .ref h4, .ref h5, .ref h6, .ref h7])), (h3, .inr (3, [.ref h1, .ref c1, .int 0]))]) hD hS hA [0, 1] rfl
  refine xkx_i (px := fun E => E = "java/util/NoSuchElementException") (w1 := fun (_ : Unit) => []) (wc := [(h0, .inr (0, [.ref h1, .ref h2, .ref h3, .ref h4, .ref h5, .ref h6, .ref h7])), (h3, .inr (3, [.ref h1, .ref c1, .int 0]))]) (wr := [(h9, .inl (K 3, 1, .inr (.inl (fun _ => 0))))]) (vx_runV (As := [.int p0, .int p1, .int p2]) (rest := [.int 0, .ref h9]) ⟨hx, hb, hml, hown, hts⟩ (c_X8_teamIn l hst D K h0 h1 h2 h3 h4 h5 h6 h7 c1 H.size p0 p1 p2) (cwV 3 hts xg_RL_X8_teamIn_98 rfl rfl rfl (by decide +kernel) ⟨Nat.le_of_ble_eq_true rfl, Nat.le_of_ble_eq_true rfl⟩) ⟨xPre.blind, va_recv hK hP (ci := 0) (q0 := 0) rfl rfl, xPre.call hE hS (hP.sub [0, 1] rfl) (hD.sub [0, 1] (by decide) rfl) hF⟩ rfl rfl hl.1 rfl (lv_room (Nat.le_of_ble_eq_true rfl)) dL_teamIn_7 ⟨Nat.le_of_ble_eq_true rfl, Nat.le_of_ble_eq_true rfl⟩) hP hD hS hF [0, 1] [2] rfl rfl rfl (by decide) (fun E9 ce9 q9 H locs hpx_4 hP hD hS hce hcv hcl => ?_) (fun r_2 u_1 H locs hw_3 hP hD hS => ?_)
  · obtain rfl := hpx_4
    refine vx_catch (own := RL) (name := "java/util/NoSuchElementException") hown (tableOf []) ⟨0, 12, 15, 24⟩ (tableOf [(0, 12, 19, 13)]) (htb.trans rfl) (fun z hz => absurd hz List.not_mem_nil) (by decide) (by decide) (hts _ xw9_7) (va_Nw.use rfl (hE.1.2.2.1 "java/util/NoSuchElementException" (by decide +kernel))) hce hcv hcl ?_
    refine lv_astore (lv' := [(5, .ref q9), (0, .ref h0), (1, .int p0), (2, .int p1), (3, .int p2), (4, .ref h9)]) hx hb dL_teamIn_15 hl (by decide) rfl (fun ls hl => ?_)
    refine lv_iconst (v := 1) hx hb dL_teamIn_17 (by decide) ?_
    have hP9 : va_P D xCl [(h9, .inl (K 3, 1, .inr (.inl (fun _ => 0))))] H := hP.sub [0] rfl
    have hD9 : va_D A [(h9, .inl (K 3, 1, .inr (.inl (fun _ => 0))))] := hD.sub [0] (by decide) rfl
    refine W.widen (k := 1) (n := 6) (Nat.le_of_ble_eq_true rfl) (Nat.le_of_ble_eq_true rfl) ?_
    exact W.iret (v := 1) hx hb hr (fun t ht hW => ⟨⟨1, (), rfl, rfl, by rw [ht]; exact hP9, hD9⟩, hS.F ht⟩) hS.2.2 dL_teamIn_18
  · exact hw_3.elim
set_option maxHeartbeats 4000000 in
set_option maxRecDepth 100000 in
theorem c_L_judgeIn (l : Launch) (hst : l.stackTraces = false) (D : va_G) (K : Nat → ClassId) (h0 h9 h1 h2 h3 h4 h5 h6 h7 c1 : Nat) (sz : Nat) (p0 p1 : Int32) : Met l yL_judgeIn [.codeWith yL_judgeIn cL_judgeIn 5 (some .int) [(0, 10, 13, 24)]] ({ frames := 8, cells := 1, slots := 6, locals := 125 }) (xPre D K [.ref h0, .int p0, .int p1, .ref h9] [(h0, .inr (0, [.ref h1, .ref h2, .ref h3, .ref h4, .ref h5, .ref h6, .ref h7])), (h3, .inr (3, [.ref h1, .ref c1, .int 0])), (h9, .inl (K 3, 1, .inr (.inl (fun _ => 0))))] sz) (va_Qi (fun (r : Int32) (u : Unit) => r = 1) (fun u t => xW D (va_A [(h0, .inr (0, [.ref h1, .ref h2, .ref h3, .ref h4, .ref h5, .ref h6, .ref h7])), (h3, .inr (3, [.ref h1, .ref c1, .int 0])), (h9, .inl (K 3, 1, .inr (.inl (fun _ => 0))))] sz) ((fun (_ : Unit) => [(h9, .inl (K 3, 1, .inr (.inl (fun _ => 0))))]) u) t) (va_A [(h0, .inr (0, [.ref h1, .ref h2, .ref h3, .ref h4, .ref h5, .ref h6, .ref h7])), (h3, .inr (3, [.ref h1, .ref c1, .int 0])), (h9, .inl (K 3, 1, .inr (.inl (fun _ => 0))))] sz)) 1 6 (va_A [(h0, .inr (0, [.ref h1, .ref h2, .ref h3, .ref h4, .ref h5, .ref h6, .ref h7])), (h3, .inr (3, [.ref h1, .ref c1, .int 0])), (h9, .inl (K 3, 1, .inr (.inl (fun _ => 0))))] sz) := by
  refine va_MetW (cc := cL_judgeIn) (maxL := 5) (ret := (some .int)) (by decide) rfl ?_
  intro p e s m args below meth c s₁ B hml hv
  obtain ⟨rfl, hsz, hP, hD0, hE⟩ := hv
  have hx := B.exec
  have hb := B.bytes
  have hr := B.returns
  have hlocks := B.notSynchronized
  have hts := hE.1.ts ([.ref h0, .int p0, .int p1, .ref h9] : List Value).toArray
  have hnt := hE.1.nt ([.ref h0, .int p0, .int p1, .ref h9] : List Value).toArray
  have hK := hE.2.1
  have hown : s.vm.findClass RL = some m.cls := findClass_of_methodNamed B.named
  have htb := vx_table (x := yL_judgeIn) B (atoms_spec (ws := [.codeWith yL_judgeIn cL_judgeIn 5 (some .int) [(0, 10, 13, 24)]]) B.pre _ List.mem_cons_self)
  subst hsz
  have hD := hD0.self (sz := s.heap.size)
  generalize hAe : va_A [(h0, .inr (0, [.ref h1, .ref h2, .ref h3, .ref h4, .ref h5, .ref h6, .ref h7])), (h3, .inr (3, [.ref h1, .ref c1, .int 0])), (h9, .inl (K 3, 1, .inr (.inl (fun _ => 0))))] s.heap.size = A at hD hE ⊢
  have hA : ∀ q : Nat, s.heap.size ≤ q → A q := fun q h => by rw [← hAe]; exact Or.inr h
  have hl := lv_entry ([.ref h0, .int p0, .int p1, .ref h9]) (n := 5) (Nat.le_of_ble_eq_true rfl)
  rw [lg_entry_eq]
  generalize (lg_sl ([.ref h0, .int p0, .int p1, .ref h9]) ++ List.replicate (5 - (lg_sl ([.ref h0, .int p0, .int p1, .ref h9])).length) Slot.unset).toArray = ls at hl ⊢
  have hl : lv_has ls 5 [(0, .ref h0), (1, .int p0), (2, .int p1), (3, .ref h9)] := hl
  generalize hH : s.heap = H at hP ⊢
  have hS : va_S A s.heap H [] := by rw [← hH]; exact va_S.rf
  refine lv_aload_n hx hb dL_judgeIn_0 rfl (lv_at hl 3 rfl) ?_
  refine lv_iconst (v := 0) hx hb dL_judgeIn_1 (by decide) ?_
  refine lv_aload_n hx hb dL_judgeIn_2 rfl (lv_at hl 0 rfl) ?_
  refine lv_iload_n hx hb dL_judgeIn_3 rfl (lv_at hl 1 rfl) ?_
  refine lv_iload_n hx hb dL_judgeIn_4 rfl (lv_at hl 2 rfl) ?_
  have hF := va_free (wc := [(h0, .inr (0, [.ref h1, .ref h2, .ref h3, .ref h4, .ref h5, .ref h6, .ref h7])), (h3, .inr (3, [.ref h1, .ref c1, .int 0]))]) hD hS hA [0, 1] rfl
  refine xkx_i (px := fun E => E = "java/util/NoSuchElementException") (w1 := fun (_ : Unit) => []) (wc := [(h0, .inr (0, [.ref h1, .ref h2, .ref h3, .ref h4, .ref h5, .ref h6, .ref h7])), (h3, .inr (3, [.ref h1, .ref c1, .int 0]))]) (wr := [(h9, .inl (K 3, 1, .inr (.inl (fun _ => 0))))]) (vx_runV (As := [.int p0, .int p1]) (rest := [.int 0, .ref h9]) ⟨hx, hb, hml, hown, hts⟩ (c_X8_judgeIn l hst D K h0 h1 h2 h3 h4 h5 h6 h7 c1 H.size p0 p1) (cwV 2 hts xg_RL_X8_judgeIn_102 rfl rfl rfl (by decide +kernel) ⟨Nat.le_of_ble_eq_true rfl, Nat.le_of_ble_eq_true rfl⟩) ⟨xPre.blind, va_recv hK hP (ci := 0) (q0 := 0) rfl rfl, xPre.call hE hS (hP.sub [0, 1] rfl) (hD.sub [0, 1] (by decide) rfl) hF⟩ rfl rfl hl.1 rfl (lv_room (Nat.le_of_ble_eq_true rfl)) dL_judgeIn_5 ⟨Nat.le_of_ble_eq_true rfl, Nat.le_of_ble_eq_true rfl⟩) hP hD hS hF [0, 1] [2] rfl rfl rfl (by decide) (fun E9 ce9 q9 H locs hpx_4 hP hD hS hce hcv hcl => ?_) (fun r_2 u_1 H locs hw_3 hP hD hS => ?_)
  · obtain rfl := hpx_4
    refine vx_catch (own := RL) (name := "java/util/NoSuchElementException") hown (tableOf []) ⟨0, 10, 13, 24⟩ (tableOf []) (htb.trans rfl) (fun z hz => absurd hz List.not_mem_nil) (by decide) (by decide) (hts _ xw9_7) (va_Nw.use rfl (hE.1.2.2.1 "java/util/NoSuchElementException" (by decide +kernel))) hce hcv hcl ?_
    refine lv_astore (lv' := [(4, .ref q9), (0, .ref h0), (1, .int p0), (2, .int p1), (3, .ref h9)]) hx hb dL_judgeIn_13 hl (by decide) rfl (fun ls hl => ?_)
    refine lv_iconst (v := 1) hx hb dL_judgeIn_15 (by decide) ?_
    have hP9 : va_P D xCl [(h9, .inl (K 3, 1, .inr (.inl (fun _ => 0))))] H := hP.sub [0] rfl
    have hD9 : va_D A [(h9, .inl (K 3, 1, .inr (.inl (fun _ => 0))))] := hD.sub [0] (by decide) rfl
    refine W.widen (k := 1) (n := 6) (Nat.le_of_ble_eq_true rfl) (Nat.le_of_ble_eq_true rfl) ?_
    exact W.iret (v := 1) hx hb hr (fun t ht hW => ⟨⟨1, (), rfl, rfl, by rw [ht]; exact hP9, hD9⟩, hS.F ht⟩) hS.2.2 dL_judgeIn_16
  · exact hw_3.elim
