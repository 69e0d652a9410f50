set_option maxHeartbeats 4000000 in
set_option maxRecDepth 100000 in
theorem c_L_penaltyOf (l : Launch) (hst : l.stackTraces = false) (D : va_G) (K : Nat → ClassId) (h0 h9 h1 h2 h3 h4 h5 h6 h7 c1 : Nat) (sz : Nat) (p0 p1 : Int32) : Met l yL_penaltyOf [.codeWith yL_penaltyOf cL_penaltyOf 5 (some .int) [(0, 10, 13, 24)]] ({ frames := 8, cells := 1, slots := 6, locals := 125 }) (xPre D K [.ref h0, .int p0, .int p1, .ref h9] [(h0, .inr (0, [.ref h1, .ref h2, .ref h3, .ref h4, .ref h5, .ref h6, .ref h7])), (h3, .inr (3, [.ref h1, .ref c1, .int 0])), (h9, .inl (K 3, 1, .inr (.inl (fun _ => 0))))] sz) (va_Qi (fun (r : Int32) (u : Unit) => r = 1) (fun u t => xW D (va_A [(h0, .inr (0, [.ref h1, .ref h2, .ref h3, .ref h4, .ref h5, .ref h6, .ref h7])), (h3, .inr (3, [.ref h1, .ref c1, .int 0])), (h9, .inl (K 3, 1, .inr (.inl (fun _ => 0))))] sz) ((fun (_ : Unit) => [(h9, .inl (K 3, 1, .inr (.inl (fun _ => 0))))]) u) t) (va_A [(h0, .inr (0, [.ref h1, .ref h2, .ref h3, .ref h4, .ref h5, .ref h6, .ref h7])), (h3, .inr (3, [.ref h1, .ref c1, .int 0])), (h9, .inl (K 3, 1, .inr (.inl (fun _ => 0))))] sz)) 1 6 (va_A [(h0, .inr (0, [.ref h1, .ref h2, .ref h3, .ref h4, .ref h5, .ref h6, .ref h7])), (h3, .inr (3, [.ref h1, .ref c1, .int 0])), (h9, .inl (K 3, 1, .inr (.inl (fun _ => 0))))] sz) := by
  refine va_MetW (cc := cL_penaltyOf) (maxL := 5) (ret := (some .int)) (by decide) rfl ?_
  intro p e s m args below meth c s₁ B hml hv
  obtain ⟨rfl, hsz, hP, hD0, hE⟩ := hv
  have hx := B.exec
  have hb := B.bytes
  have hr := B.returns
  have hlocks := B.notSynchronized
  have hts := hE.1.ts ([.ref h0, .int p0, .int p1, .ref h9] : List Value).toArray
  have hnt := hE.1.nt ([.ref h0, .int p0, .int p1, .ref h9] : List Value).toArray
  have hK := hE.2.1
  have hown : s.vm.findClass RL = some m.cls := findClass_of_methodNamed B.named
  have htb := vx_table (x := yL_penaltyOf) B (atoms_spec (ws := [.codeWith yL_penaltyOf cL_penaltyOf 5 (some .int) [(0, 10, 13, 24)]]) B.pre _ List.mem_cons_self)
  subst hsz
  have hD := hD0.self (sz := s.heap.size)
  generalize hAe : va_A [(h0, .inr (0, [.ref h1, .ref h2, .ref h3, .ref h4, .ref h5, .ref h6, .ref h7])), (h3, .inr (3, [.ref h1, .ref c1, .int 0])), (h9, .inl (K 3, 1, .inr (.inl (fun _ => 0))))] s.heap.size = A at hD hE ⊢
  have hA : ∀ q : Nat, s.heap.size ≤ q → A q := fun q h => by rw [← hAe]; exact Or.inr h
  have hl := lv_entry ([.ref h0, .int p0, .int p1, .ref h9]) (n := 5) (Nat.le_of_ble_eq_true rfl)
  rw [lg_entry_eq]
  generalize (lg_sl ([.ref h0, .int p0, .int p1, .ref h9]) ++ List.replicate (5 - (lg_sl ([.ref h0, .int p0, .int p1, .ref h9])).length) Slot.unset).toArray = ls at hl ⊢
  have hl : lv_has ls 5 [(0, .ref h0), (1, .int p0), (2, .int p1), (3, .ref h9)] := hl
  generalize hH : s.heap = H at hP ⊢
  have hS : va_S A s.heap H [] := by rw [← hH]; exact va_S.rf
  refine lv_aload_n hx hb dL_penaltyOf_0 rfl (lv_at hl 3 rfl) ?_
  refine lv_iconst (v := 0) hx hb dL_penaltyOf_1 (by decide) ?_
  refine lv_aload_n hx hb dL_penaltyOf_2 rfl (lv_at hl 0 rfl) ?_
  refine lv_iload_n hx hb dL_penaltyOf_3 rfl (lv_at hl 1 rfl) ?_
  refine lv_iload_n hx hb dL_penaltyOf_4 rfl (lv_at hl 2 rfl) ?_
  have hF := va_free (wc := [(h0, .inr (0, [.ref h1, .ref h2, .ref h3, .ref h4, .ref h5, .ref h6, .ref h7])), (h3, .inr (3, [.ref h1, .ref c1, .int 0]))]) hD hS hA [0, 1] rfl
  refine xkx_i (px := fun E => E = "java/util/NoSuchElementException") (w1 := fun (_ : Unit) => []) (wc := [(h0, .inr (0, [.ref h1, .ref h2, .ref h3, .ref h4, .ref h5, .ref h6, .ref h7])), (h3, .inr (3, [.ref h1, .ref c1, .int 0]))]) (wr := [(h9, .inl (K 3, 1, .inr (.inl (fun _ => 0))))]) (vx_runV (As := [.int p0, .int p1]) (rest := [.int 0, .ref h9]) ⟨hx, hb, hml, hown, hts⟩ (c_X8_penaltyOf l hst D K h0 h1 h2 h3 h4 h5 h6 h7 c1 H.size p0 p1) (cwV 2 hts xg_RL_X8_penaltyOf_105 rfl rfl rfl (by decide +kernel) ⟨Nat.le_of_ble_eq_true rfl, Nat.le_of_ble_eq_true rfl⟩) ⟨xPre.blind, va_recv hK hP (ci := 0) (q0 := 0) rfl rfl, xPre.call hE hS (hP.sub [0, 1] rfl) (hD.sub [0, 1] (by decide) rfl) hF⟩ rfl rfl hl.1 rfl (lv_room (Nat.le_of_ble_eq_true rfl)) dL_penaltyOf_5 ⟨Nat.le_of_ble_eq_true rfl, Nat.le_of_ble_eq_true rfl⟩) hP hD hS hF [0, 1] [2] rfl rfl rfl (by decide) (fun E9 ce9 q9 H locs hpx_4 hP hD hS hce hcv hcl => ?_) (fun r_2 u_1 H locs hw_3 hP hD hS => ?_)
  · obtain rfl := hpx_4
    refine vx_catch (own := RL) (name := "java/util/NoSuchElementException") hown (tableOf []) ⟨0, 10, 13, 24⟩ (tableOf []) (htb.trans rfl) (fun z hz => absurd hz List.not_mem_nil) (by decide) (by decide) (hts _ xw9_7) (va_Nw.use rfl (hE.1.2.2.1 "java/util/NoSuchElementException" (by decide +kernel))) hce hcv hcl ?_
    refine lv_astore (lv' := [(4, .ref q9), (0, .ref h0), (1, .int p0), (2, .int p1), (3, .ref h9)]) hx hb dL_penaltyOf_13 hl (by decide) rfl (fun ls hl => ?_)
    refine lv_iconst (v := 1) hx hb dL_penaltyOf_15 (by decide) ?_
    have hP9 : va_P D xCl [(h9, .inl (K 3, 1, .inr (.inl (fun _ => 0))))] H := hP.sub [0] rfl
    have hD9 : va_D A [(h9, .inl (K 3, 1, .inr (.inl (fun _ => 0))))] := hD.sub [0] (by decide) rfl
    refine W.widen (k := 1) (n := 6) (Nat.le_of_ble_eq_true rfl) (Nat.le_of_ble_eq_true rfl) ?_
    exact W.iret (v := 1) hx hb hr (fun t ht hW => ⟨⟨1, (), rfl, rfl, by rw [ht]; exact hP9, hD9⟩, hS.F ht⟩) hS.2.2 dL_penaltyOf_16
  · exact hw_3.elim
set_option maxHeartbeats 4000000 in
set_option maxRecDepth 100000 in
theorem c_L_winner (l : Launch) (hst : l.stackTraces = false) (D : va_G) (K : Nat → ClassId) (h0 h9 h1 h2 h3 h4 h5 h6 h7 c1 : Nat) (sz : Nat) (p0 p1 : Int32) : Met l yL_winner [.codeWith yL_winner cL_winner 5 (some .int) [(0, 10, 13, 24)]] ({ frames := 8, cells := 1, slots := 6, locals := 125 }) (xPre D K [.ref h0, .int p0, .int p1, .ref h9] [(h0, .inr (0, [.ref h1, .ref h2, .ref h3, .ref h4, .ref h5, .ref h6, .ref h7])), (h3, .inr (3, [.ref h1, .ref c1, .int 0])), (h9, .inl (K 3, 1, .inr (.inl (fun _ => 0))))] sz) (va_Qi (fun (r : Int32) (u : Unit) => r = 1) (fun u t => xW D (va_A [(h0, .inr (0, [.ref h1, .ref h2, .ref h3, .ref h4, .ref h5, .ref h6, .ref h7])), (h3, .inr (3, [.ref h1, .ref c1, .int 0])), (h9, .inl (K 3, 1, .inr (.inl (fun _ => 0))))] sz) ((fun (_ : Unit) => [(h9, .inl (K 3, 1, .inr (.inl (fun _ => 0))))]) u) t) (va_A [(h0, .inr (0, [.ref h1, .ref h2, .ref h3, .ref h4, .ref h5, .ref h6, .ref h7])), (h3, .inr (3, [.ref h1, .ref c1, .int 0])), (h9, .inl (K 3, 1, .inr (.inl (fun _ => 0))))] sz)) 1 6 (va_A [(h0, .inr (0, [.ref h1, .ref h2, .ref h3, .ref h4, .ref h5, .ref h6, .ref h7])), (h3, .inr (3, [.ref h1, .ref c1, .int 0])), (h9, .inl (K 3, 1, .inr (.inl (fun _ => 0))))] sz) := by
  refine va_MetW (cc := cL_winner) (maxL := 5) (ret := (some .int)) (by decide) rfl ?_
  intro p e s m args below meth c s₁ B hml hv
  obtain ⟨rfl, hsz, hP, hD0, hE⟩ := hv
  have hx := B.exec
  have hb := B.bytes
  have hr := B.returns
  have hlocks := B.notSynchronized
  have hts := hE.1.ts ([.ref h0, .int p0, .int p1, .ref h9] : List Value).toArray
  have hnt := hE.1.nt ([.ref h0, .int p0, .int p1, .ref h9] : List Value).toArray
  have hK := hE.2.1
  have hown : s.vm.findClass RL = some m.cls := findClass_of_methodNamed B.named
  have htb := vx_table (x := yL_winner) B (atoms_spec (ws := [.codeWith yL_winner cL_winner 5 (some .int) [(0, 10, 13, 24)]]) B.pre _ List.mem_cons_self)
  subst hsz
  have hD := hD0.self (sz := s.heap.size)
  generalize hAe : va_A [(h0, .inr (0, [.ref h1, .ref h2, .ref h3, .ref h4, .ref h5, .ref h6, .ref h7])), (h3, .inr (3, [.ref h1, .ref c1, .int 0])), (h9, .inl (K 3, 1, .inr (.inl (fun _ => 0))))] s.heap.size = A at hD hE ⊢
  have hA : ∀ q : Nat, s.heap.size ≤ q → A q := fun q h => by rw [← hAe]; exact Or.inr h
  have hl := lv_entry ([.ref h0, .int p0, .int p1, .ref h9]) (n := 5) (Nat.le_of_ble_eq_true rfl)
  rw [lg_entry_eq]
  generalize (lg_sl ([.ref h0, .int p0, .int p1, .ref h9]) ++ List.replicate (5 - (lg_sl ([.ref h0, .int p0, .int p1, .ref h9])).length) Slot.unset).toArray = ls at hl ⊢
  have hl : lv_has ls 5 [(0, .ref h0), (1, .int p0), (2, .int p1), (3, .ref h9)] := hl
  generalize hH : s.heap = H at hP ⊢
  have hS : va_S A s.heap H [] := by rw [← hH]; exact va_S.rf
  refine lv_aload_n hx hb dL_winner_0 rfl (lv_at hl 3 rfl) ?_
  refine lv_iconst (v := 0) hx hb dL_winner_1 (by decide) ?_
  refine lv_aload_n hx hb dL_winner_2 rfl (lv_at hl 0 rfl) ?_
  refine lv_iload_n hx hb dL_winner_3 rfl (lv_at hl 1 rfl) ?_
  refine lv_iload_n hx hb dL_winner_4 rfl (lv_at hl 2 rfl) ?_
  have hF := va_free (wc := [(h0, .inr (0, [.ref h1, .ref h2, .ref h3, .ref h4, .ref h5, .ref h6, .ref h7])), (h3, .inr (3, [.ref h1, .ref c1, .int 0]))]) hD hS hA [0, 1] rfl
  refine xkx_i (px := fun E => E = "java/util/NoSuchElementException") (w1 := fun (_ : Unit) => []) (wc := [(h0, .inr (0, [.ref h1, .ref h2, .ref h3, .ref h4, .ref h5, .ref h6, .ref h7])), (h3, .inr (3, [.ref h1, .ref c1, .int 0]))]) (wr := [(h9, .inl (K 3, 1, .inr (.inl (fun _ => 0))))]) (vx_runV (As := [.int p0, .int p1]) (rest := [.int 0, .ref h9]) ⟨hx, hb, hml, hown, hts⟩ (c_X8_winner l hst D K h0 h1 h2 h3 h4 h5 h6 h7 c1 H.size p0 p1) (cwV 2 hts xg_RL_X8_winner_108 rfl rfl rfl (by decide +kernel) ⟨Nat.le_of_ble_eq_true rfl, Nat.le_of_ble_eq_true rfl⟩) ⟨xPre.blind, va_recv hK hP (ci := 0) (q0 := 0) rfl rfl, xPre.call hE hS (hP.sub [0, 1] rfl) (hD.sub [0, 1] (by decide) rfl) hF⟩ rfl rfl hl.1 rfl (lv_room (Nat.le_of_ble_eq_true rfl)) dL_winner_5 ⟨Nat.le_of_ble_eq_true rfl, Nat.le_of_ble_eq_true rfl⟩) hP hD hS hF [0, 1] [2] rfl rfl rfl (by decide) (fun E9 ce9 q9 H locs hpx_4 hP hD hS hce hcv hcl => ?_) (fun r_2 u_1 H locs hw_3 hP hD hS => ?_)
  · obtain rfl := hpx_4
    refine vx_catch (own := RL) (name := "java/util/NoSuchElementException") hown (tableOf []) ⟨0, 10, 13, 24⟩ (tableOf []) (htb.trans rfl) (fun z hz => absurd hz List.not_mem_nil) (by decide) (by decide) (hts _ xw9_7) (va_Nw.use rfl (hE.1.2.2.1 "java/util/NoSuchElementException" (by decide +kernel))) hce hcv hcl ?_
    refine lv_astore (lv' := [(4, .ref q9), (0, .ref h0), (1, .int p0), (2, .int p1), (3, .ref h9)]) hx hb dL_winner_13 hl (by decide) rfl (fun ls hl => ?_)
    refine lv_iconst (v := 1) hx hb dL_winner_15 (by decide) ?_
    have hP9 : va_P D xCl [(h9, .inl (K 3, 1, .inr (.inl (fun _ => 0))))] H := hP.sub [0] rfl
    have hD9 : va_D A [(h9, .inl (K 3, 1, .inr (.inl (fun _ => 0))))] := hD.sub [0] (by decide) rfl
    refine W.widen (k := 1) (n := 6) (Nat.le_of_ble_eq_true rfl) (Nat.le_of_ble_eq_true rfl) ?_
    exact W.iret (v := 1) hx hb hr (fun t ht hW => ⟨⟨1, (), rfl, rfl, by rw [ht]; exact hP9, hD9⟩, hS.F ht⟩) hS.2.2 dL_winner_16
  · exact hw_3.elim
set_option maxHeartbeats 4000000 in
set_option maxRecDepth 100000 in
theorem c_L_missing (l : Launch) (hst : l.stackTraces = false) (D : va_G) (K : Nat → ClassId) (h0 h9 h1 h2 h3 h4 h5 h6 h7 c1 : Nat) (sz : Nat) : Met l yL_missing [.codeWith yL_missing cL_missing 3 (some .int) [(0, 8, 11, 15)]] ({ frames := 8, cells := 1, slots := 6, locals := 122 }) (xPre D K [.ref h0, .ref h9] [(h0, .inr (0, [.ref h1, .ref h2, .ref h3, .ref h4, .ref h5, .ref h6, .ref h7])), (h3, .inr (3, [.ref h1, .ref c1, .int 0])), (h9, .inl (K 3, 1, .inr (.inl (fun _ => 0))))] sz) (va_Qi (fun (r : Int32) (u : Unit) => r = 1) (fun u t => xW D (va_A [(h0, .inr (0, [.ref h1, .ref h2, .ref h3, .ref h4, .ref h5, .ref h6, .ref h7])), (h3, .inr (3, [.ref h1, .ref c1, .int 0])), (h9, .inl (K 3, 1, .inr (.inl (fun _ => 0))))] sz) ((fun (_ : Unit) => [(h9, .inl (K 3, 1, .inr (.inl (fun _ => 0))))]) u) t) (va_A [(h0, .inr (0, [.ref h1, .ref h2, .ref h3, .ref h4, .ref h5, .ref h6, .ref h7])), (h3, .inr (3, [.ref h1, .ref c1, .int 0])), (h9, .inl (K 3, 1, .inr (.inl (fun _ => 0))))] sz)) 1 6 (va_A [(h0, .inr (0, [.ref h1, .ref h2, .ref h3, .ref h4, .ref h5, .ref h6, .ref h7])), (h3, .inr (3, [.ref h1, .ref c1, .int 0])), (h9, .inl (K 3, 1, .inr (.inl (fun _ => 0))))] sz) := by
  refine va_MetW (cc := cL_missing) (maxL := 3) (ret := (some .int)) (by decide) rfl ?_
  intro p e s m args below meth c s₁ B hml hv
  obtain ⟨rfl, hsz, hP, hD0, hE⟩ := hv
  have hx := B.exec
  have hb := B.bytes
  have hr := B.returns
  have hlocks := B.notSynchronized
  have hts := hE.1.ts ([.ref h0, .ref h9] : List Value).toArray
  have hnt := hE.1.nt ([.ref h0, .ref h9] : List Value).toArray
  have hK := hE.2.1
  have hown : s.vm.findClass RL = some m.cls := findClass_of_methodNamed B.named
  have htb := vx_table (x := yL_missing) B (atoms_spec (ws := [.codeWith yL_missing cL_missing 3 (some .int) [(0, 8, 11, 15)]]) B.pre _ List.mem_cons_self)
  subst hsz
  have hD := hD0.self (sz := s.heap.size)
  generalize hAe : va_A [(h0, .inr (0, [.ref h1, .ref h2, .ref h3, .ref h4, .ref h5, .ref h6, .ref h7])), (h3, .inr (3, [.ref h1, .ref c1, .int 0])), (h9, .inl (K 3, 1, .inr (.inl (fun _ => 0))))] s.heap.size = A at hD hE ⊢
  have hA : ∀ q : Nat, s.heap.size ≤ q → A q := fun q h => by rw [← hAe]; exact Or.inr h
  have hl := lv_entry ([.ref h0, .ref h9]) (n := 3) (Nat.le_of_ble_eq_true rfl)
  rw [lg_entry_eq]
  generalize (lg_sl ([.ref h0, .ref h9]) ++ List.replicate (3 - (lg_sl ([.ref h0, .ref h9])).length) Slot.unset).toArray = ls at hl ⊢
  have hl : lv_has ls 3 [(0, .ref h0), (1, .ref h9)] := hl
  generalize hH : s.heap = H at hP ⊢
  have hS : va_S A s.heap H [] := by rw [← hH]; exact va_S.rf
  refine lv_aload_n hx hb dL_missing_0 rfl (lv_at hl 1 rfl) ?_
  refine lv_iconst (v := 0) hx hb dL_missing_1 (by decide) ?_
  refine lv_aload_n hx hb dL_missing_2 rfl (lv_at hl 0 rfl) ?_
  have hF := va_free (wc := [(h0, .inr (0, [.ref h1, .ref h2, .ref h3, .ref h4, .ref h5, .ref h6, .ref h7])), (h3, .inr (3, [.ref h1, .ref c1, .int 0]))]) hD hS hA [0, 1] rfl
  refine xkx_i (px := fun E => E = "java/lang/IllegalStateException") (w1 := fun (_ : Unit) => []) (wc := [(h0, .inr (0, [.ref h1, .ref h2, .ref h3, .ref h4, .ref h5, .ref h6, .ref h7])), (h3, .inr (3, [.ref h1, .ref c1, .int 0]))]) (wr := [(h9, .inl (K 3, 1, .inr (.inl (fun _ => 0))))]) (vx_runV (As := []) (rest := [.int 0, .ref h9]) ⟨hx, hb, hml, hown, hts⟩ (c_X8_missing l hst D K h0 h1 h2 h3 h4 h5 h6 h7 c1 H.size) (cwV 0 hts xg_RL_X8_missing_112 rfl rfl rfl (by decide +kernel) ⟨Nat.le_of_ble_eq_true rfl, Nat.le_of_ble_eq_true rfl⟩) ⟨xPre.blind, va_recv hK hP (ci := 0) (q0 := 0) rfl rfl, xPre.call hE hS (hP.sub [0, 1] rfl) (hD.sub [0, 1] (by decide) rfl) hF⟩ rfl rfl hl.1 rfl (lv_room (Nat.le_of_ble_eq_true rfl)) dL_missing_3 ⟨Nat.le_of_ble_eq_true rfl, Nat.le_of_ble_eq_true rfl⟩) hP hD hS hF [0, 1] [2] rfl rfl rfl (by decide) (fun E9 ce9 q9 H locs hpx_4 hP hD hS hce hcv hcl => ?_) (fun r_2 u_1 H locs hw_3 hP hD hS => ?_)
  · obtain rfl := hpx_4
    refine vx_catch (own := RL) (name := "java/lang/IllegalStateException") hown (tableOf []) ⟨0, 8, 11, 15⟩ (tableOf []) (htb.trans rfl) (fun z hz => absurd hz List.not_mem_nil) (by decide) (by decide) (hts _ xw7_5) (va_Nw.use rfl (hE.1.2.2.1 "java/lang/IllegalStateException" (by decide +kernel))) hce hcv hcl ?_
    refine lv_astore_n (lv' := [(2, .ref q9), (0, .ref h0), (1, .ref h9)]) hx hb dL_missing_11 rfl hl (by decide) rfl (fun ls hl => ?_)
    refine lv_iconst (v := 1) hx hb dL_missing_12 (by decide) ?_
    have hP9 : va_P D xCl [(h9, .inl (K 3, 1, .inr (.inl (fun _ => 0))))] H := hP.sub [0] rfl
    have hD9 : va_D A [(h9, .inl (K 3, 1, .inr (.inl (fun _ => 0))))] := hD.sub [0] (by decide) rfl
    refine W.widen (k := 1) (n := 6) (Nat.le_of_ble_eq_true rfl) (Nat.le_of_ble_eq_true rfl) ?_
    exact W.iret (v := 1) hx hb hr (fun t ht hW => ⟨⟨1, (), rfl, rfl, by rw [ht]; exact hP9, hD9⟩, hS.F ht⟩) hS.2.2 dL_missing_13
  · exact hw_3.elim
set_option maxHeartbeats 4000000 in
set_option maxRecDepth 100000 in
theorem c_L_nextRoom (l : Launch) (hst : l.stackTraces = false) (D : va_G) (K : Nat → ClassId) (h0 h9 h1 h2 h3 h4 h5 h6 h7 c1 : Nat) (sz : Nat) : Met l yL_nextRoom [.codeWith yL_nextRoom cL_nextRoom 3 (some .int) [(0, 8, 11, 15), (0, 8, 14, 24)]] ({ frames := 8, cells := 1, slots := 6, locals := 123 }) (xPre D K [.ref h0, .ref h9] [(h0, .inr (0, [.ref h1, .ref h2, .ref h3, .ref h4, .ref h5, .ref h6, .ref h7])), (h3, .inr (3, [.ref h1, .ref c1, .int 0])), (h9, .inl (K 3, 1, .inr (.inl (fun _ => 0))))] sz) (va_Qi (fun (r : Int32) (u : Unit) => r = 1) (fun u t => xW D (va_A [(h0, .inr (0, [.ref h1, .ref h2, .ref h3, .ref h4, .ref h5, .ref h6, .ref h7])), (h3, .inr (3, [.ref h1, .ref c1, .int 0])), (h9, .inl (K 3, 1, .inr (.inl (fun _ => 0))))] sz) ((fun (_ : Unit) => [(h9, .inl (K 3, 1, .inr (.inl (fun _ => 0))))]) u) t) (va_A [(h0, .inr (0, [.ref h1, .ref h2, .ref h3, .ref h4, .ref h5, .ref h6, .ref h7])), (h3, .inr (3, [.ref h1, .ref c1, .int 0])), (h9, .inl (K 3, 1, .inr (.inl (fun _ => 0))))] sz)) 1 6 (va_A [(h0, .inr (0, [.ref h1, .ref h2, .ref h3, .ref h4, .ref h5, .ref h6, .ref h7])), (h3, .inr (3, [.ref h1, .ref c1, .int 0])), (h9, .inl (K 3, 1, .inr (.inl (fun _ => 0))))] sz) := by
  refine va_MetW (cc := cL_nextRoom) (maxL := 3) (ret := (some .int)) (by decide) rfl ?_
  intro p e s m args below meth c s₁ B hml hv
  obtain ⟨rfl, hsz, hP, hD0, hE⟩ := hv
  have hx := B.exec
  have hb := B.bytes
  have hr := B.returns
  have hlocks := B.notSynchronized
  have hts := hE.1.ts ([.ref h0, .ref h9] : List Value).toArray
  have hnt := hE.1.nt ([.ref h0, .ref h9] : List Value).toArray
  have hK := hE.2.1
  have hown : s.vm.findClass RL = some m.cls := findClass_of_methodNamed B.named
  have htb := vx_table (x := yL_nextRoom) B (atoms_spec (ws := [.codeWith yL_nextRoom cL_nextRoom 3 (some .int) [(0, 8, 11, 15), (0, 8, 14, 24)]]) B.pre _ List.mem_cons_self)
  subst hsz
  have hD := hD0.self (sz := s.heap.size)
  generalize hAe : va_A [(h0, .inr (0, [.ref h1, .ref h2, .ref h3, .ref h4, .ref h5, .ref h6, .ref h7])), (h3, .inr (3, [.ref h1, .ref c1, .int 0])), (h9, .inl (K 3, 1, .inr (.inl (fun _ => 0))))] s.heap.size = A at hD hE ⊢
  have hA : ∀ q : Nat, s.heap.size ≤ q → A q := fun q h => by rw [← hAe]; exact Or.inr h
  have hl := lv_entry ([.ref h0, .ref h9]) (n := 3) (Nat.le_of_ble_eq_true rfl)
  rw [lg_entry_eq]
  generalize (lg_sl ([.ref h0, .ref h9]) ++ List.replicate (3 - (lg_sl ([.ref h0, .ref h9])).length) Slot.unset).toArray = ls at hl ⊢
  have hl : lv_has ls 3 [(0, .ref h0), (1, .ref h9)] := hl
  generalize hH : s.heap = H at hP ⊢
  have hS : va_S A s.heap H [] := by rw [← hH]; exact va_S.rf
  refine lv_aload_n hx hb dL_nextRoom_0 rfl (lv_at hl 1 rfl) ?_
  refine lv_iconst (v := 0) hx hb dL_nextRoom_1 (by decide) ?_
  refine lv_aload_n hx hb dL_nextRoom_2 rfl (lv_at hl 0 rfl) ?_
  have hF := va_free (wc := [(h0, .inr (0, [.ref h1, .ref h2, .ref h3, .ref h4, .ref h5, .ref h6, .ref h7])), (h3, .inr (3, [.ref h1, .ref c1, .int 0]))]) hD hS hA [0, 1] rfl
  refine xkx_i (px := fun E => E = "java/lang/IllegalStateException") (w1 := fun (_ : Unit) => []) (wc := [(h0, .inr (0, [.ref h1, .ref h2, .ref h3, .ref h4, .ref h5, .ref h6, .ref h7])), (h3, .inr (3, [.ref h1, .ref c1, .int 0]))]) (wr := [(h9, .inl (K 3, 1, .inr (.inl (fun _ => 0))))]) (vx_runV (As := []) (rest := [.int 0, .ref h9]) ⟨hx, hb, hml, hown, hts⟩ (c_X8_nextRoom l hst D K h0 h1 h2 h3 h4 h5 h6 h7 c1 H.size) (cwV 0 hts xg_RL_X8_nextRoom_115 rfl rfl rfl (by decide +kernel) ⟨Nat.le_of_ble_eq_true rfl, Nat.le_of_ble_eq_true rfl⟩) ⟨xPre.blind, va_recv hK hP (ci := 0) (q0 := 0) rfl rfl, xPre.call hE hS (hP.sub [0, 1] rfl) (hD.sub [0, 1] (by decide) rfl) hF⟩ rfl rfl hl.1 rfl (lv_room (Nat.le_of_ble_eq_true rfl)) dL_nextRoom_3 ⟨Nat.le_of_ble_eq_true rfl, Nat.le_of_ble_eq_true rfl⟩) hP hD hS hF [0, 1] [2] rfl rfl rfl (by decide) (fun E9 ce9 q9 H locs hpx_4 hP hD hS hce hcv hcl => ?_) (fun r_2 u_1 H locs hw_3 hP hD hS => ?_)
  · obtain rfl := hpx_4
    refine vx_catch (own := RL) (name := "java/lang/IllegalStateException") hown (tableOf []) ⟨0, 8, 11, 15⟩ (tableOf [(0, 8, 14, 24)]) (htb.trans rfl) (fun z hz => absurd hz List.not_mem_nil) (by decide) (by decide) (hts _ xw7_5) (va_Nw.use rfl (hE.1.2.2.1 "java/lang/IllegalStateException" (by decide +kernel))) hce hcv hcl ?_
    refine lv_astore_n (lv' := [(2, .ref q9), (0, .ref h0), (1, .ref h9)]) hx hb dL_nextRoom_11 rfl hl (by decide) rfl (fun ls hl => ?_)
    refine lv_iconst (v := 1) hx hb dL_nextRoom_12 (by decide) ?_
    have hP9 : va_P D xCl [(h9, .inl (K 3, 1, .inr (.inl (fun _ => 0))))] H := hP.sub [0] rfl
    have hD9 : va_D A [(h9, .inl (K 3, 1, .inr (.inl (fun _ => 0))))] := hD.sub [0] (by decide) rfl
    refine W.widen (k := 1) (n := 6) (Nat.le_of_ble_eq_true rfl) (Nat.le_of_ble_eq_true rfl) ?_
    exact W.iret (v := 1) hx hb hr (fun t ht hW => ⟨⟨1, (), rfl, rfl, by rw [ht]; exact hP9, hD9⟩, hS.F ht⟩) hS.2.2 dL_nextRoom_13
  · exact hw_3.elim
set_option maxHeartbeats 4000000 in
set_option maxRecDepth 100000 in
theorem c_L_speeches (l : Launch) (hst : l.stackTraces = false) (D : va_G) (K : Nat → ClassId) (h0 h9 h1 h2 h3 h4 h5 h6 h7 a1 a2 a3 a4 a5 a6 : Nat) (sz : Nat) (p0 p1 : Int32) : Met l yL_speeches [.codeWith yL_speeches cL_speeches 5 (some .int) [(0, 10, 13, 24), (0, 10, 17, 13)]] ({ frames := 8, cells := 1, slots := 6, locals := 125 }) (xPre D K [.ref h0, .int p0, .int p1, .ref h9] [(h0, .inr (0, [.ref h1, .ref h2, .ref h3, .ref h4, .ref h5, .ref h6, .ref h7])), (h1, .inr (1, [.ref a1, .ref a2, .ref a3, .ref a4, .ref a5, .ref a6, .int 0, .int 0])), (h9, .inl (K 3, 1, .inr (.inl (fun _ => 0))))] sz) (va_Qi (fun (r : Int32) (u : Unit) => r = 1) (fun u t => xW D (va_A [(h0, .inr (0, [.ref h1, .ref h2, .ref h3, .ref h4, .ref h5, .ref h6, .ref h7])), (h1, .inr (1, [.ref a1, .ref a2, .ref a3, .ref a4, .ref a5, .ref a6, .int 0, .int 0])), (h9, .inl (K 3, 1, .inr (.inl (fun _ => 0))))] sz) ((fun (_ : Unit) => [(h9, .inl (K 3, 1, .inr (.inl (fun _ => 0))))]) u) t) (va_A [(h0, .inr (0, [.ref h1, .ref h2, .ref h3, .ref h4, .ref h5, .ref h6, .ref h7])), (h1, .inr (1, [.ref a1, .ref a2, .ref a3, .ref a4, .ref a5, .ref a6, .int 0, .int 0])), (h9, .inl (K 3, 1, .inr (.inl (fun _ => 0))))] sz)) 1 6 (va_A [(h0, .inr (0, [.ref h1, .ref h2, .ref h3, .ref h4, .ref h5, .ref h6, .ref h7])), (h1, .inr (1, [.ref a1, .ref a2, .ref a3, .ref a4, .ref a5, .ref a6, .int 0, .int 0])), (h9, .inl (K 3, 1, .inr (.inl (fun _ => 0))))] sz) := by
  refine va_MetW (cc := cL_speeches) (maxL := 5) (ret := (some .int)) (by decide) rfl ?_
  intro p e s m args below meth c s₁ B hml hv
  obtain ⟨rfl, hsz, hP, hD0, hE⟩ := hv
  have hx := B.exec
  have hb := B.bytes
  have hr := B.returns
  have hlocks := B.notSynchronized
  have hts := hE.1.ts ([.ref h0, .int p0, .int p1, .ref h9] : List Value).toArray
  have hnt := hE.1.nt ([.ref h0, .int p0, .int p1, .ref h9] : List Value).toArray
  have hK := hE.2.1
  have hown : s.vm.findClass RL = some m.cls := findClass_of_methodNamed B.named
  have htb := vx_table (x := yL_speeches) B (atoms_spec (ws := [.codeWith yL_speeches cL_speeches 5 (some .int) [(0, 10, 13, 24), (0, 10, 17, 13)]]) B.pre _ List.mem_cons_self)
  subst hsz
  have hD := hD0.self (sz := s.heap.size)
  generalize hAe : va_A [(h0, .inr (0, [.ref h1, .ref h2, .ref h3, .ref h4, .ref h5, .ref h6, .ref h7])), (h1, .inr (1, [.ref a1, .ref a2, .ref a3, .ref a4, .ref a5, .ref a6, .int 0, .int 0])), (h9, .inl (K 3, 1, .inr (.inl (fun _ => 0))))] s.heap.size = A at hD hE ⊢
  have hA : ∀ q : Nat, s.heap.size ≤ q → A q := fun q h => by rw [← hAe]; exact Or.inr h
  have hl := lv_entry ([.ref h0, .int p0, .int p1, .ref h9]) (n := 5) (Nat.le_of_ble_eq_true rfl)
  rw [lg_entry_eq]
  generalize (lg_sl ([.ref h0, .int p0, .int p1, .ref h9]) ++ List.replicate (5 - (lg_sl ([.ref h0, .int p0, .int p1, .ref h9])).length) Slot.unset).toArray = ls at hl ⊢
  have hl : lv_has ls 5 [(0, .ref h0), (1, .int p0), (2, .int p1), (3, .ref h9)] := hl
  generalize hH : s.heap = H at hP ⊢
  have hS : va_S A s.heap H [] := by rw [← hH]; exact va_S.rf
  refine lv_aload_n hx hb dL_speeches_0 rfl (lv_at hl 3 rfl) ?_
  refine lv_iconst (v := 0) hx hb dL_speeches_1 (by decide) ?_
  refine lv_aload_n hx hb dL_speeches_2 rfl (lv_at hl 0 rfl) ?_
  refine lv_iload_n hx hb dL_speeches_3 rfl (lv_at hl 1 rfl) ?_
  refine lv_iload_n hx hb dL_speeches_4 rfl (lv_at hl 2 rfl) ?_
  have hF := va_free (wc := [(h0, .inr (0, [.ref h1, .ref h2, .ref h3, .ref h4, .ref h5, .ref h6, .ref h7])), (h1, .inr (1, [.ref a1, .ref a2, .ref a3, .ref a4, .ref a5, .ref a6, .int 0, .int 0]))]) hD hS hA [0, 1] rfl
  refine xkx_i (px := fun E => E = "java/util/NoSuchElementException") (w1 := fun (_ : Unit) => []) (wc := [(h0, .inr (0, [.ref h1, .ref h2, .ref h3, .ref h4, .ref h5, .ref h6, .ref h7])), (h1, .inr (1, [.ref a1, .ref a2, .ref a3, .ref a4, .ref a5, .ref a6, .int 0, .int 0]))]) (wr := [(h9, .inl (K 3, 1, .inr (.inl (fun _ => 0))))]) (vx_runV (As := [.int p0, .int p1]) (rest := [.int 0, .ref h9]) ⟨hx, hb, hml, hown, hts⟩ (c_X8_speeches l hst D K h0 h1 h2 h3 h4 h5 h6 h7 a1 a2 a3 a4 a5 a6 H.size p0 p1) (cwV 2 hts xg_RL_X8_speeches_118 rfl rfl rfl (by decide +kernel) ⟨Nat.le_of_ble_eq_true rfl, Nat.le_of_ble_eq_true rfl⟩) ⟨xPre.blind, va_recv hK hP (ci := 0) (q0 := 0) rfl rfl, xPre.call hE hS (hP.sub [0, 1] rfl) (hD.sub [0, 1] (by decide) rfl) hF⟩ rfl rfl hl.1 rfl (lv_room (Nat.le_of_ble_eq_true rfl)) dL_speeches_5 ⟨Nat.le_of_ble_eq_true rfl, Nat.le_of_ble_eq_true rfl⟩) hP hD hS hF [0, 1] [2] rfl rfl rfl (by decide) (fun E9 ce9 q9 H locs hpx_4 hP hD hS hce hcv hcl => ?_) (fun r_2 u_1 H locs hw_3 hP hD hS => ?_)
  · obtain rfl := hpx_4
    refine vx_catch (own := RL) (name := "java/util/NoSuchElementException") hown (tableOf []) ⟨0, 10, 13, 24⟩ (tableOf [(0, 10, 17, 13)]) (htb.trans rfl) (fun z hz => absurd hz List.not_mem_nil) (by decide) (by decide) (hts _ xw9_7) (va_Nw.use rfl (hE.1.2.2.1 "java/util/NoSuchElementException" (by decide +kernel))) hce hcv hcl ?_
    refine lv_astore (lv' := [(4, .ref q9), (0, .ref h0), (1, .int p0), (2, .int p1), (3, .ref h9)]) hx hb dL_speeches_13 hl (by decide) rfl (fun ls hl => ?_)
    refine lv_iconst (v := 1) hx hb dL_speeches_15 (by decide) ?_
    have hP9 : va_P D xCl [(h9, .inl (K 3, 1, .inr (.inl (fun _ => 0))))] H := hP.sub [0] rfl
    have hD9 : va_D A [(h9, .inl (K 3, 1, .inr (.inl (fun _ => 0))))] := hD.sub [0] (by decide) rfl
    refine W.widen (k := 1) (n := 6) (Nat.le_of_ble_eq_true rfl) (Nat.le_of_ble_eq_true rfl) ?_
    exact W.iret (v := 1) hx hb hr (fun t ht hW => ⟨⟨1, (), rfl, rfl, by rw [ht]; exact hP9, hD9⟩, hS.F ht⟩) hS.2.2 dL_speeches_16
  · exact hw_3.elim
set_option maxHeartbeats 4000000 in
set_option maxRecDepth 100000 in
theorem c_L_average (l : Launch) (hst : l.stackTraces = false) (D : va_G) (K : Nat → ClassId) (h0 h9 h1 h2 h3 h4 h5 h6 h7 a1 a2 a3 a4 a5 a6 : Nat) (sz : Nat) (p0 p1 : Int32) : Met l yL_average [.codeWith yL_average cL_average 5 (some .int) [(0, 10, 13, 24), (0, 10, 17, 13), (0, 10, 21, 125)]] ({ frames := 9, cells := 1, slots := 6, locals := 148 }) (xPre D K [.ref h0, .int p0, .int p1, .ref h9] [(h0, .inr (0, [.ref h1, .ref h2, .ref h3, .ref h4, .ref h5, .ref h6, .ref h7])), (h1, .inr (1, [.ref a1, .ref a2, .ref a3, .ref a4, .ref a5, .ref a6, .int 0, .int 0])), (h9, .inl (K 4, 1, .inr (.inr (.inr (.inl (fun _ => 0))))))] sz) (va_Qi (fun (r : Int32) (u : Unit) => r = 1) (fun u t => xW D (va_A [(h0, .inr (0, [.ref h1, .ref h2, .ref h3, .ref h4, .ref h5, .ref h6, .ref h7])), (h1, .inr (1, [.ref a1, .ref a2, .ref a3, .ref a4, .ref a5, .ref a6, .int 0, .int 0])), (h9, .inl (K 4, 1, .inr (.inr (.inr (.inl (fun _ => 0))))))] sz) ((fun (_ : Unit) => [(h9, .inl (K 4, 1, .inr (.inr (.inr (.inl (fun _ => 0))))))]) u) t) (va_A [(h0, .inr (0, [.ref h1, .ref h2, .ref h3, .ref h4, .ref h5, .ref h6, .ref h7])), (h1, .inr (1, [.ref a1, .ref a2, .ref a3, .ref a4, .ref a5, .ref a6, .int 0, .int 0])), (h9, .inl (K 4, 1, .inr (.inr (.inr (.inl (fun _ => 0))))))] sz)) 1 6 (va_A [(h0, .inr (0, [.ref h1, .ref h2, .ref h3, .ref h4, .ref h5, .ref h6, .ref h7])), (h1, .inr (1, [.ref a1, .ref a2, .ref a3, .ref a4, .ref a5, .ref a6, .int 0, .int 0])), (h9, .inl (K 4, 1, .inr (.inr (.inr (.inl (fun _ => 0))))))] sz) := by
  refine va_MetW (cc := cL_average) (maxL := 5) (ret := (some .int)) (by decide) rfl ?_
  intro p e s m args below meth c s₁ B hml hv
  obtain ⟨rfl, hsz, hP, hD0, hE⟩ := hv
  have hx := B.exec
  have hb := B.bytes
  have hr := B.returns
  have hlocks := B.notSynchronized
  have hts := hE.1.ts ([.ref h0, .int p0, .int p1, .ref h9] : List Value).toArray
  have hnt := hE.1.nt ([.ref h0, .int p0, .int p1, .ref h9] : List Value).toArray
  have hK := hE.2.1
  have hown : s.vm.findClass RL = some m.cls := findClass_of_methodNamed B.named
  have htb := vx_table (x := yL_average) B (atoms_spec (ws := [.codeWith yL_average cL_average 5 (some .int) [(0, 10, 13, 24), (0, 10, 17, 13), (0, 10, 21, 125)]]) B.pre _ List.mem_cons_self)
  subst hsz
  have hD := hD0.self (sz := s.heap.size)
  generalize hAe : va_A [(h0, .inr (0, [.ref h1, .ref h2, .ref h3, .ref h4, .ref h5, .ref h6, .ref h7])), (h1, .inr (1, [.ref a1, .ref a2, .ref a3, .ref a4, .ref a5, .ref a6, .int 0, .int 0])), (h9, .inl (K 4, 1, .inr (.inr (.inr (.inl (fun _ => 0))))))] s.heap.size = A at hD hE ⊢
  have hA : ∀ q : Nat, s.heap.size ≤ q → A q := fun q h => by rw [← hAe]; exact Or.inr h
  have hl := lv_entry ([.ref h0, .int p0, .int p1, .ref h9]) (n := 5) (Nat.le_of_ble_eq_true rfl)
  rw [lg_entry_eq]
  generalize (lg_sl ([.ref h0, .int p0, .int p1, .ref h9]) ++ List.replicate (5 - (lg_sl ([.ref h0, .int p0, .int p1, .ref h9])).length) Slot.unset).toArray = ls at hl ⊢
  have hl : lv_has ls 5 [(0, .ref h0), (1, .int p0), (2, .int p1), (3, .ref h9)] := hl
  generalize hH : s.heap = H at hP ⊢
  have hS : va_S A s.heap H [] := by rw [← hH]; exact va_S.rf
  refine lv_aload_n hx hb dL_average_0 rfl (lv_at hl 3 rfl) ?_
  refine lv_iconst (v := 0) hx hb dL_average_1 (by decide) ?_
  refine lv_aload_n hx hb dL_average_2 rfl (lv_at hl 0 rfl) ?_
  refine lv_iload_n hx hb dL_average_3 rfl (lv_at hl 1 rfl) ?_
  refine lv_iload_n hx hb dL_average_4 rfl (lv_at hl 2 rfl) ?_
  have hF := va_free (wc := [(h0, .inr (0, [.ref h1, .ref h2, .ref h3, .ref h4, .ref h5, .ref h6, .ref h7])), (h1, .inr (1, [.ref a1, .ref a2, .ref a3, .ref a4, .ref a5, .ref a6, .int 0, .int 0]))]) hD hS hA [0, 1] rfl
  refine xkx_f (px := fun E => E = "java/util/NoSuchElementException") (w1 := fun (_ : Unit) => []) (wc := [(h0, .inr (0, [.ref h1, .ref h2, .ref h3, .ref h4, .ref h5, .ref h6, .ref h7])), (h1, .inr (1, [.ref a1, .ref a2, .ref a3, .ref a4, .ref a5, .ref a6, .int 0, .int 0]))]) (wr := [(h9, .inl (K 4, 1, .inr (.inr (.inr (.inl (fun _ => 0))))))]) (vx_runV (As := [.int p0, .int p1]) (rest := [.int 0, .ref h9]) ⟨hx, hb, hml, hown, hts⟩ (c_X8_average l hst D K h0 h1 h2 h3 h4 h5 h6 h7 a1 a2 a3 a4 a5 a6 H.size p0 p1) (cwV 2 hts xg_RL_X8_average_121 rfl rfl rfl (by decide +kernel) ⟨Nat.le_of_ble_eq_true rfl, Nat.le_of_ble_eq_true rfl⟩) ⟨xPre.blind, va_recv hK hP (ci := 0) (q0 := 0) rfl rfl, xPre.call hE hS (hP.sub [0, 1] rfl) (hD.sub [0, 1] (by decide) rfl) hF⟩ rfl rfl hl.1 rfl (lv_room (Nat.le_of_ble_eq_true rfl)) dL_average_5 ⟨Nat.le_of_ble_eq_true rfl, Nat.le_of_ble_eq_true rfl⟩) hP hD hS hF [0, 1] [2] rfl rfl rfl (by decide) (fun E9 ce9 q9 H locs hpx_4 hP hD hS hce hcv hcl => ?_) (fun r_2 u_1 H locs hw_3 hP hD hS => ?_)
  · obtain rfl := hpx_4
    refine vx_catch (own := RL) (name := "java/util/NoSuchElementException") hown (tableOf []) ⟨0, 10, 13, 24⟩ (tableOf [(0, 10, 17, 13), (0, 10, 21, 125)]) (htb.trans rfl) (fun z hz => absurd hz List.not_mem_nil) (by decide) (by decide) (hts _ xw9_7) (va_Nw.use rfl (hE.1.2.2.1 "java/util/NoSuchElementException" (by decide +kernel))) hce hcv hcl ?_
    refine lv_astore (lv' := [(4, .ref q9), (0, .ref h0), (1, .int p0), (2, .int p1), (3, .ref h9)]) hx hb dL_average_13 hl (by decide) rfl (fun ls hl => ?_)
    refine lv_iconst (v := 1) hx hb dL_average_15 (by decide) ?_
    have hP9 : va_P D xCl [(h9, .inl (K 4, 1, .inr (.inr (.inr (.inl (fun _ => 0))))))] H := hP.sub [0] rfl
    have hD9 : va_D A [(h9, .inl (K 4, 1, .inr (.inr (.inr (.inl (fun _ => 0))))))] := hD.sub [0] (by decide) rfl
    refine W.widen (k := 1) (n := 6) (Nat.le_of_ble_eq_true rfl) (Nat.le_of_ble_eq_true rfl) ?_
    exact W.iret (v := 1) hx hb hr (fun t ht hW => ⟨⟨1, (), rfl, rfl, by rw [ht]; exact hP9, hD9⟩, hS.F ht⟩) hS.2.2 dL_average_16
  · exact hw_3.elim
set_option maxHeartbeats 4000000 in
set_option maxRecDepth 100000 in
theorem c_L_averageBits (l : Launch) (hst : l.stackTraces = false) (D : va_G) (K : Nat → ClassId) (h0 h9 h1 h2 h3 h4 h5 h6 h7 a1 a2 a3 a4 a5 a6 : Nat) (sz : Nat) (p0 p1 : Int32) : Met l yL_averageBits [.codeWith yL_averageBits cL_averageBits 5 (some .int) [(0, 10, 13, 24), (0, 10, 17, 13), (0, 10, 21, 125)]] ({ frames := 9, cells := 1, slots := 6, locals := 148 }) (xPre D K [.ref h0, .int p0, .int p1, .ref h9] [(h0, .inr (0, [.ref h1, .ref h2, .ref h3, .ref h4, .ref h5, .ref h6, .ref h7])), (h1, .inr (1, [.ref a1, .ref a2, .ref a3, .ref a4, .ref a5, .ref a6, .int 0, .int 0])), (h9, .inl (K 3, 1, .inr (.inl (fun _ => 0))))] sz) (va_Qi (fun (r : Int32) (u : Unit) => r = 1) (fun u t => xW D (va_A [(h0, .inr (0, [.ref h1, .ref h2, .ref h3, .ref h4, .ref h5, .ref h6, .ref h7])), (h1, .inr (1, [.ref a1, .ref a2, .ref a3, .ref a4, .ref a5, .ref a6, .int 0, .int 0])), (h9, .inl (K 3, 1, .inr (.inl (fun _ => 0))))] sz) ((fun (_ : Unit) => [(h9, .inl (K 3, 1, .inr (.inl (fun _ => 0))))]) u) t) (va_A [(h0, .inr (0, [.ref h1, .ref h2, .ref h3, .ref h4, .ref h5, .ref h6, .ref h7])), (h1, .inr (1, [.ref a1, .ref a2, .ref a3, .ref a4, .ref a5, .ref a6, .int 0, .int 0])), (h9, .inl (K 3, 1, .inr (.inl (fun _ => 0))))] sz)) 1 6 (va_A [(h0, .inr (0, [.ref h1, .ref h2, .ref h3, .ref h4, .ref h5, .ref h6, .ref h7])), (h1, .inr (1, [.ref a1, .ref a2, .ref a3, .ref a4, .ref a5, .ref a6, .int 0, .int 0])), (h9, .inl (K 3, 1, .inr (.inl (fun _ => 0))))] sz) := by
  refine va_MetW (cc := cL_averageBits) (maxL := 5) (ret := (some .int)) (by decide) rfl ?_
  intro p e s m args below meth c s₁ B hml hv
  obtain ⟨rfl, hsz, hP, hD0, hE⟩ := hv
  have hx := B.exec
  have hb := B.bytes
  have hr := B.returns
  have hlocks := B.notSynchronized
  have hts := hE.1.ts ([.ref h0, .int p0, .int p1, .ref h9] : List Value).toArray
  have hnt := hE.1.nt ([.ref h0, .int p0, .int p1, .ref h9] : List Value).toArray
  have hK := hE.2.1
  have hown : s.vm.findClass RL = some m.cls := findClass_of_methodNamed B.named
  have htb := vx_table (x := yL_averageBits) B (atoms_spec (ws := [.codeWith yL_averageBits cL_averageBits 5 (some .int) [(0, 10, 13, 24), (0, 10, 17, 13), (0, 10, 21, 125)]]) B.pre _ List.mem_cons_self)
  subst hsz
  have hD := hD0.self (sz := s.heap.size)
  generalize hAe : va_A [(h0, .inr (0, [.ref h1, .ref h2, .ref h3, .ref h4, .ref h5, .ref h6, .ref h7])), (h1, .inr (1, [.ref a1, .ref a2, .ref a3, .ref a4, .ref a5, .ref a6, .int 0, .int 0])), (h9, .inl (K 3, 1, .inr (.inl (fun _ => 0))))] s.heap.size = A at hD hE ⊢
  have hA : ∀ q : Nat, s.heap.size ≤ q → A q := fun q h => by rw [← hAe]; exact Or.inr h
  have hl := lv_entry ([.ref h0, .int p0, .int p1, .ref h9]) (n := 5) (Nat.le_of_ble_eq_true rfl)
  rw [lg_entry_eq]
  generalize (lg_sl ([.ref h0, .int p0, .int p1, .ref h9]) ++ List.replicate (5 - (lg_sl ([.ref h0, .int p0, .int p1, .ref h9])).length) Slot.unset).toArray = ls at hl ⊢
  have hl : lv_has ls 5 [(0, .ref h0), (1, .int p0), (2, .int p1), (3, .ref h9)] := hl
  generalize hH : s.heap = H at hP ⊢
  have hS : va_S A s.heap H [] := by rw [← hH]; exact va_S.rf
  refine lv_aload_n hx hb dL_averageBits_0 rfl (lv_at hl 3 rfl) ?_
  refine lv_iconst (v := 0) hx hb dL_averageBits_1 (by decide) ?_
  refine lv_aload_n hx hb dL_averageBits_2 rfl (lv_at hl 0 rfl) ?_
  refine lv_iload_n hx hb dL_averageBits_3 rfl (lv_at hl 1 rfl) ?_
  refine lv_iload_n hx hb dL_averageBits_4 rfl (lv_at hl 2 rfl) ?_
  have hF := va_free (wc := [(h0, .inr (0, [.ref h1, .ref h2, .ref h3, .ref h4, .ref h5, .ref h6, .ref h7])), (h1, .inr (1, [.ref a1, .ref a2, .ref a3, .ref a4, .ref a5, .ref a6, .int 0, .int 0]))]) hD hS hA [0, 1] rfl
  refine xkx_i (px := fun E => E = "java/util/NoSuchElementException") (w1 := fun (_ : Unit) => []) (wc := [(h0, .inr (0, [.ref h1, .ref h2, .ref h3, .ref h4, .ref h5, .ref h6, .ref h7])), (h1, .inr (1, [.ref a1, .ref a2, .ref a3, .ref a4, .ref a5, .ref a6, .int 0, .int 0]))]) (wr := [(h9, .inl (K 3, 1, .inr (.inl (fun _ => 0))))]) (vx_runV (As := [.int p0, .int p1]) (rest := [.int 0, .ref h9]) ⟨hx, hb, hml, hown, hts⟩ (c_X8_averageBits l hst D K h0 h1 h2 h3 h4 h5 h6 h7 a1 a2 a3 a4 a5 a6 H.size p0 p1) (cwV 2 hts xg_RL_X8_averageBits_127 rfl rfl rfl (by decide +kernel) ⟨Nat.le_of_ble_eq_true rfl, Nat.le_of_ble_eq_true rfl⟩) ⟨xPre.blind, va_recv hK hP (ci := 0) (q0 := 0) rfl rfl, xPre.call hE hS (hP.sub [0, 1] rfl) (hD.sub [0, 1] (by decide) rfl) hF⟩ rfl rfl hl.1 rfl (lv_room (Nat.le_of_ble_eq_true rfl)) dL_averageBits_5 ⟨Nat.le_of_ble_eq_true rfl, Nat.le_of_ble_eq_true rfl⟩) hP hD hS hF [0, 1] [2] rfl rfl rfl (by decide) (fun E9 ce9 q9 H locs hpx_4 hP hD hS hce hcv hcl => ?_) (fun r_2 u_1 H locs hw_3 hP hD hS => ?_)
  · obtain rfl := hpx_4
    refine vx_catch (own := RL) (name := "java/util/NoSuchElementException") hown (tableOf []) ⟨0, 10, 13, 24⟩ (tableOf [(0, 10, 17, 13), (0, 10, 21, 125)]) (htb.trans rfl) (fun z hz => absurd hz List.not_mem_nil) (by decide) (by decide) (hts _ xw9_7) (va_Nw.use rfl (hE.1.2.2.1 "java/util/NoSuchElementException" (by decide +kernel))) hce hcv hcl ?_
    refine lv_astore (lv' := [(4, .ref q9), (0, .ref h0), (1, .int p0), (2, .int p1), (3, .ref h9)]) hx hb dL_averageBits_13 hl (by decide) rfl (fun ls hl => ?_)
    refine lv_iconst (v := 1) hx hb dL_averageBits_15 (by decide) ?_
    have hP9 : va_P D xCl [(h9, .inl (K 3, 1, .inr (.inl (fun _ => 0))))] H := hP.sub [0] rfl
    have hD9 : va_D A [(h9, .inl (K 3, 1, .inr (.inl (fun _ => 0))))] := hD.sub [0] (by decide) rfl
    refine W.widen (k := 1) (n := 6) (Nat.le_of_ble_eq_true rfl) (Nat.le_of_ble_eq_true rfl) ?_
    exact W.iret (v := 1) hx hb hr (fun t ht hW => ⟨⟨1, (), rfl, rfl, by rw [ht]; exact hP9, hD9⟩, hS.F ht⟩) hS.2.2 dL_averageBits_16
  · exact hw_3.elim
set_option maxHeartbeats 4000000 in
set_option maxRecDepth 100000 in
theorem c_L_averageTenths (l : Launch) (hst : l.stackTraces = false) (D : va_G) (K : Nat → ClassId) (h0 h9 h1 h2 h3 h4 h5 h6 h7 a1 a2 a3 a4 a5 a6 : Nat) (sz : Nat) (p0 p1 : Int32) : Met l yL_averageTenths [.codeWith yL_averageTenths cL_averageTenths 5 (some .int) [(0, 10, 13, 24), (0, 10, 17, 13), (0, 10, 21, 125)]] ({ frames := 9, cells := 1, slots := 6, locals := 148 }) (xPre D K [.ref h0, .int p0, .int p1, .ref h9] [(h0, .inr (0, [.ref h1, .ref h2, .ref h3, .ref h4, .ref h5, .ref h6, .ref h7])), (h1, .inr (1, [.ref a1, .ref a2, .ref a3, .ref a4, .ref a5, .ref a6, .int 0, .int 0])), (h9, .inl (K 3, 1, .inr (.inl (fun _ => 0))))] sz) (va_Qi (fun (r : Int32) (u : Unit) => r = 1) (fun u t => xW D (va_A [(h0, .inr (0, [.ref h1, .ref h2, .ref h3, .ref h4, .ref h5, .ref h6, .ref h7])), (h1, .inr (1, [.ref a1, .ref a2, .ref a3, .ref a4, .ref a5, .ref a6, .int 0, .int 0])), (h9, .inl (K 3, 1, .inr (.inl (fun _ => 0))))] sz) ((fun (_ : Unit) => [(h9, .inl (K 3, 1, .inr (.inl (fun _ => 0))))]) u) t) (va_A [(h0, .inr (0, [.ref h1, .ref h2, .ref h3, .ref h4, .ref h5, .ref h6, .ref h7])), (h1, .inr (1, [.ref a1, .ref a2, .ref a3, .ref a4, .ref a5, .ref a6, .int 0, .int 0])), (h9, .inl (K 3, 1, .inr (.inl (fun _ => 0))))] sz)) 1 6 (va_A [(h0, .inr (0, [.ref h1, .ref h2, .ref h3, .ref h4, .ref h5, .ref h6, .ref h7])), (h1, .inr (1, [.ref a1, .ref a2, .ref a3, .ref a4, .ref a5, .ref a6, .int 0, .int 0])), (h9, .inl (K 3, 1, .inr (.inl (fun _ => 0))))] sz) := by
  refine va_MetW (cc := cL_averageTenths) (maxL := 5) (ret := (some .int)) (by decide) rfl ?_
  intro p e s m args below meth c s₁ B hml hv
  obtain ⟨rfl, hsz, hP, hD0, hE⟩ := hv
  have hx := B.exec
  have hb := B.bytes
  have hr := B.returns
  have hlocks := B.notSynchronized
  have hts := hE.1.ts ([.ref h0, .int p0, .int p1, .ref h9] : List Value).toArray
  have hnt := hE.1.nt ([.ref h0, .int p0, .int p1, .ref h9] : List Value).toArray
  have hK := hE.2.1
  have hown : s.vm.findClass RL = some m.cls := findClass_of_methodNamed B.named
  have htb := vx_table (x := yL_averageTenths) B (atoms_spec (ws := [.codeWith yL_averageTenths cL_averageTenths 5 (some .int) [(0, 10, 13, 24), (0, 10, 17, 13), (0, 10, 21, 125)]]) B.pre _ List.mem_cons_self)
  subst hsz
  have hD := hD0.self (sz := s.heap.size)
  generalize hAe : va_A [(h0, .inr (0, [.ref h1, .ref h2, .ref h3, .ref h4, .ref h5, .ref h6, .ref h7])), (h1, .inr (1, [.ref a1, .ref a2, .ref a3, .ref a4, .ref a5, .ref a6, .int 0, .int 0])), (h9, .inl (K 3, 1, .inr (.inl (fun _ => 0))))] s.heap.size = A at hD hE ⊢
  have hA : ∀ q : Nat, s.heap.size ≤ q → A q := fun q h => by rw [← hAe]; exact Or.inr h
  have hl := lv_entry ([.ref h0, .int p0, .int p1, .ref h9]) (n := 5) (Nat.le_of_ble_eq_true rfl)
  rw [lg_entry_eq]
  generalize (lg_sl ([.ref h0, .int p0, .int p1, .ref h9]) ++ List.replicate (5 - (lg_sl ([.ref h0, .int p0, .int p1, .ref h9])).length) Slot.unset).toArray = ls at hl ⊢
  have hl : lv_has ls 5 [(0, .ref h0), (1, .int p0), (2, .int p1), (3, .ref h9)] := hl
  generalize hH : s.heap = H at hP ⊢
  have hS : va_S A s.heap H [] := by rw [← hH]; exact va_S.rf
  refine lv_aload_n hx hb dL_averageTenths_0 rfl (lv_at hl 3 rfl) ?_
  refine lv_iconst (v := 0) hx hb dL_averageTenths_1 (by decide) ?_
  refine lv_aload_n hx hb dL_averageTenths_2 rfl (lv_at hl 0 rfl) ?_
  refine lv_iload_n hx hb dL_averageTenths_3 rfl (lv_at hl 1 rfl) ?_
  refine lv_iload_n hx hb dL_averageTenths_4 rfl (lv_at hl 2 rfl) ?_
  have hF := va_free (wc := [(h0, .inr (0, [.ref h1, .ref h2, .ref h3, .ref h4, .ref h5, .ref h6, .ref h7])), (h1, .inr (1, [.ref a1, .ref a2, .ref a3, .ref a4, .ref a5, .ref a6, .int 0, .int 0]))]) hD hS hA [0, 1] rfl
  refine xkx_i (px := fun E => E = "java/util/NoSuchElementException") (w1 := fun (_ : Unit) => []) (wc := [(h0, .inr (0, [.ref h1, .ref h2, .ref h3, .ref h4, .ref h5, .ref h6, .ref h7])), (h1, .inr (1, [.ref a1, .ref a2, .ref a3, .ref a4, .ref a5, .ref a6, .int 0, .int 0]))]) (wr := [(h9, .inl (K 3, 1, .inr (.inl (fun _ => 0))))]) (vx_runV (As := [.int p0, .int p1]) (rest := [.int 0, .ref h9]) ⟨hx, hb, hml, hown, hts⟩ (c_X8_averageTenths l hst D K h0 h1 h2 h3 h4 h5 h6 h7 a1 a2 a3 a4 a5 a6 H.size p0 p1) (cwV 2 hts xg_RL_X8_averageTenths_130 rfl rfl rfl (by decide +kernel) ⟨Nat.le_of_ble_eq_true rfl, Nat.le_of_ble_eq_true rfl⟩) ⟨xPre.blind, va_recv hK hP (ci := 0) (q0 := 0) rfl rfl, xPre.call hE hS (hP.sub [0, 1] rfl) (hD.sub [0, 1] (by decide) rfl) hF⟩ rfl rfl hl.1 rfl (lv_room (Nat.le_of_ble_eq_true rfl)) dL_averageTenths_5 ⟨Nat.le_of_ble_eq_true rfl, Nat.le_of_ble_eq_true rfl⟩) hP hD hS hF [0, 1] [2] rfl rfl rfl (by decide) (fun E9 ce9 q9 H locs hpx_4 hP hD hS hce hcv hcl => ?_) (fun r_2 u_1 H locs hw_3 hP hD hS => ?_)
  · obtain rfl := hpx_4
    refine vx_catch (own := RL) (name := "java/util/NoSuchElementException") hown (tableOf []) ⟨0, 10, 13, 24⟩ (tableOf [(0, 10, 17, 13), (0, 10, 21, 125)]) (htb.trans rfl) (fun z hz => absurd hz List.not_mem_nil) (by decide) (by decide) (hts _ xw9_7) (va_Nw.use rfl (hE.1.2.2.1 "java/util/NoSuchElementException" (by decide +kernel))) hce hcv hcl ?_
    refine lv_astore (lv' := [(4, .ref q9), (0, .ref h0), (1, .int p0), (2, .int p1), (3, .ref h9)]) hx hb dL_averageTenths_13 hl (by decide) rfl (fun ls hl => ?_)
    refine lv_iconst (v := 1) hx hb dL_averageTenths_15 (by decide) ?_
    have hP9 : va_P D xCl [(h9, .inl (K 3, 1, .inr (.inl (fun _ => 0))))] H := hP.sub [0] rfl
    have hD9 : va_D A [(h9, .inl (K 3, 1, .inr (.inl (fun _ => 0))))] := hD.sub [0] (by decide) rfl
    refine W.widen (k := 1) (n := 6) (Nat.le_of_ble_eq_true rfl) (Nat.le_of_ble_eq_true rfl) ?_
    exact W.iret (v := 1) hx hb hr (fun t ht hW => ⟨⟨1, (), rfl, rfl, by rw [ht]; exact hP9, hD9⟩, hS.F ht⟩) hS.2.2 dL_averageTenths_16
  · exact hw_3.elim
set_option maxHeartbeats 4000000 in
set_option maxRecDepth 100000 in
theorem c_L_bestSpeaker (l : Launch) (hst : l.stackTraces = false) (D : va_G) (K : Nat → ClassId) (h0 h9 h1 h2 h3 h4 h5 h6 h7 b1 b2 b3 b4 : Nat) (sz : Nat) (p0 : Int32) : Met l yL_bestSpeaker [.codeWith yL_bestSpeaker cL_bestSpeaker 4 (some .int) [(0, 9, 12, 72)]] ({ frames := 7, cells := 1, slots := 6, locals := 104 }) (xPre D K [.ref h0, .int p0, .ref h9] [(h0, .inr (0, [.ref h1, .ref h2, .ref h3, .ref h4, .ref h5, .ref h6, .ref h7])), (h2, .inr (2, [.ref b1, .ref b2, .ref b3, .ref b4, .long 0])), (b3, .inl (K 0, 24, .inl (fun _ => 0))), (h9, .inl (K 3, 1, .inr (.inl (fun _ => 0))))] sz) (va_Qi (fun (r : Int32) (u : Unit) => r = 1) (fun u t => xW D (va_A [(h0, .inr (0, [.ref h1, .ref h2, .ref h3, .ref h4, .ref h5, .ref h6, .ref h7])), (h2, .inr (2, [.ref b1, .ref b2, .ref b3, .ref b4, .long 0])), (b3, .inl (K 0, 24, .inl (fun _ => 0))), (h9, .inl (K 3, 1, .inr (.inl (fun _ => 0))))] sz) ((fun (_ : Unit) => [(h9, .inl (K 3, 1, .inr (.inl (fun _ => 0))))]) u) t) (va_A [(h0, .inr (0, [.ref h1, .ref h2, .ref h3, .ref h4, .ref h5, .ref h6, .ref h7])), (h2, .inr (2, [.ref b1, .ref b2, .ref b3, .ref b4, .long 0])), (b3, .inl (K 0, 24, .inl (fun _ => 0))), (h9, .inl (K 3, 1, .inr (.inl (fun _ => 0))))] sz)) 1 6 (va_A [(h0, .inr (0, [.ref h1, .ref h2, .ref h3, .ref h4, .ref h5, .ref h6, .ref h7])), (h2, .inr (2, [.ref b1, .ref b2, .ref b3, .ref b4, .long 0])), (b3, .inl (K 0, 24, .inl (fun _ => 0))), (h9, .inl (K 3, 1, .inr (.inl (fun _ => 0))))] sz) := by
  refine va_MetW (cc := cL_bestSpeaker) (maxL := 4) (ret := (some .int)) (by decide) rfl ?_
  intro p e s m args below meth c s₁ B hml hv
  obtain ⟨rfl, hsz, hP, hD0, hE⟩ := hv
  have hx := B.exec
  have hb := B.bytes
  have hr := B.returns
  have hlocks := B.notSynchronized
  have hts := hE.1.ts ([.ref h0, .int p0, .ref h9] : List Value).toArray
  have hnt := hE.1.nt ([.ref h0, .int p0, .ref h9] : List Value).toArray
  have hK := hE.2.1
  have hown : s.vm.findClass RL = some m.cls := findClass_of_methodNamed B.named
  have htb := vx_table (x := yL_bestSpeaker) B (atoms_spec (ws := [.codeWith yL_bestSpeaker cL_bestSpeaker 4 (some .int) [(0, 9, 12, 72)]]) B.pre _ List.mem_cons_self)
  subst hsz
  have hD := hD0.self (sz := s.heap.size)
  generalize hAe : va_A [(h0, .inr (0, [.ref h1, .ref h2, .ref h3, .ref h4, .ref h5, .ref h6, .ref h7])), (h2, .inr (2, [.ref b1, .ref b2, .ref b3, .ref b4, .long 0])), (b3, .inl (K 0, 24, .inl (fun _ => 0))), (h9, .inl (K 3, 1, .inr (.inl (fun _ => 0))))] s.heap.size = A at hD hE ⊢
  have hA : ∀ q : Nat, s.heap.size ≤ q → A q := fun q h => by rw [← hAe]; exact Or.inr h
  have hl := lv_entry ([.ref h0, .int p0, .ref h9]) (n := 4) (Nat.le_of_ble_eq_true rfl)
  rw [lg_entry_eq]
  generalize (lg_sl ([.ref h0, .int p0, .ref h9]) ++ List.replicate (4 - (lg_sl ([.ref h0, .int p0, .ref h9])).length) Slot.unset).toArray = ls at hl ⊢
  have hl : lv_has ls 4 [(0, .ref h0), (1, .int p0), (2, .ref h9)] := hl
  generalize hH : s.heap = H at hP ⊢
  have hS : va_S A s.heap H [] := by rw [← hH]; exact va_S.rf
  refine lv_aload_n hx hb dL_bestSpeaker_0 rfl (lv_at hl 2 rfl) ?_
  refine lv_iconst (v := 0) hx hb dL_bestSpeaker_1 (by decide) ?_
  refine lv_aload_n hx hb dL_bestSpeaker_2 rfl (lv_at hl 0 rfl) ?_
  refine lv_iload_n hx hb dL_bestSpeaker_3 rfl (lv_at hl 1 rfl) ?_
  have hF := va_free (wc := [(h0, .inr (0, [.ref h1, .ref h2, .ref h3, .ref h4, .ref h5, .ref h6, .ref h7])), (h2, .inr (2, [.ref b1, .ref b2, .ref b3, .ref b4, .long 0])), (b3, .inl (K 0, 24, .inl (fun _ => 0)))]) hD hS hA [0, 1, 2] rfl
  refine xkx_i (px := fun E => E = "java/lang/IndexOutOfBoundsException") (w1 := fun (_ : Unit) => []) (wc := [(h0, .inr (0, [.ref h1, .ref h2, .ref h3, .ref h4, .ref h5, .ref h6, .ref h7])), (h2, .inr (2, [.ref b1, .ref b2, .ref b3, .ref b4, .long 0])), (b3, .inl (K 0, 24, .inl (fun _ => 0)))]) (wr := [(h9, .inl (K 3, 1, .inr (.inl (fun _ => 0))))]) (vx_runV (As := [.int p0]) (rest := [.int 0, .ref h9]) ⟨hx, hb, hml, hown, hts⟩ (c_X8_bestSpeaker l hst D K h0 h1 h2 h3 h4 h5 h6 h7 b1 b2 b3 b4 H.size p0) (cwV 1 hts xg_RL_X8_bestSpeaker_133 rfl rfl rfl (by decide +kernel) ⟨Nat.le_of_ble_eq_true rfl, Nat.le_of_ble_eq_true rfl⟩) ⟨xPre.blind, va_recv hK hP (ci := 0) (q0 := 0) rfl rfl, xPre.call hE hS (hP.sub [0, 1, 2] rfl) (hD.sub [0, 1, 2] (by decide) rfl) hF⟩ rfl rfl hl.1 rfl (lv_room (Nat.le_of_ble_eq_true rfl)) dL_bestSpeaker_4 ⟨Nat.le_of_ble_eq_true rfl, Nat.le_of_ble_eq_true rfl⟩) hP hD hS hF [0, 1, 2] [3] rfl rfl rfl (by decide) (fun E9 ce9 q9 H locs hpx_4 hP hD hS hce hcv hcl => ?_) (fun r_2 u_1 H locs hw_3 hP hD hS => ?_)
  · obtain rfl := hpx_4
    refine vx_catch (own := RL) (name := "java/lang/IndexOutOfBoundsException") hown (tableOf []) ⟨0, 9, 12, 72⟩ (tableOf []) (htb.trans rfl) (fun z hz => absurd hz List.not_mem_nil) (by decide) (by decide) (hts _ xw31_5) (va_Nw.use rfl (hE.1.2.2.1 "java/lang/IndexOutOfBoundsException" (by decide +kernel))) hce hcv hcl ?_
    refine lv_astore_n (lv' := [(3, .ref q9), (0, .ref h0), (1, .int p0), (2, .ref h9)]) hx hb dL_bestSpeaker_12 rfl hl (by decide) rfl (fun ls hl => ?_)
    refine lv_iconst (v := 1) hx hb dL_bestSpeaker_13 (by decide) ?_
    have hP9 : va_P D xCl [(h9, .inl (K 3, 1, .inr (.inl (fun _ => 0))))] H := hP.sub [0] rfl
    have hD9 : va_D A [(h9, .inl (K 3, 1, .inr (.inl (fun _ => 0))))] := hD.sub [0] (by decide) rfl
    refine W.widen (k := 1) (n := 6) (Nat.le_of_ble_eq_true rfl) (Nat.le_of_ble_eq_true rfl) ?_
    exact W.iret (v := 1) hx hb hr (fun t ht hW => ⟨⟨1, (), rfl, rfl, by rw [ht]; exact hP9, hD9⟩, hS.F ht⟩) hS.2.2 dL_bestSpeaker_14
  · exact hw_3.elim
set_option maxHeartbeats 4000000 in
set_option maxRecDepth 100000 in
theorem c_L_breaks (l : Launch) (hst : l.stackTraces = false) (D : va_G) (K : Nat → ClassId) (h0 h9 h1 h2 h3 h4 h5 h6 h7 d1 d2 d3 a1 a2 a3 a4 a5 a6 : Nat) (sz : Nat) (p0 p1 : Int32) : Met l yL_breaks [.codeWith yL_breaks cL_breaks 5 (some .int) [(0, 10, 13, 13), (0, 10, 17, 72)]] ({ frames := 7, cells := 1, slots := 6, locals := 105 }) (xPre D K [.ref h0, .int p0, .int p1, .ref h9] [(h0, .inr (0, [.ref h1, .ref h2, .ref h3, .ref h4, .ref h5, .ref h6, .ref h7])), (h4, .inr (4, [.ref h1, .ref h2, .ref h3, .ref d1, .ref d2, .ref d3])), (h1, .inr (1, [.ref a1, .ref a2, .ref a3, .ref a4, .ref a5, .ref a6, .int 0, .int 0])), (d3, .inl (K 0, 6, .inl (fun _ => 0))), (h9, .inl (K 3, 1, .inr (.inl (fun _ => 0))))] sz) (va_Qi (fun (r : Int32) (u : Unit) => (p1 = 2 ∧ p0 < 0 ∧ r = 2) ∨ (p1 = 2 ∧ ¬ p0 < 0 ∧ p0 < p1 ∧ r = 2) ∨ (p1 = 2 ∧ ¬ p0 < 0 ∧ ¬ p0 < p1 ∧ r = 2) ∨ (¬ p1 = 2 ∧ p1 = 4 ∧ p0 < 0 ∧ r = 2) ∨ (¬ p1 = 2 ∧ p1 = 4 ∧ ¬ p0 < 0 ∧ p0 < p1 ∧ r = 2) ∨ (¬ p1 = 2 ∧ p1 = 4 ∧ ¬ p0 < 0 ∧ ¬ p0 < p1 ∧ r = 2) ∨ (¬ p1 = 2 ∧ ¬ p1 = 4 ∧ p1 = 8 ∧ p0 < 0 ∧ r = 2) ∨ (¬ p1 = 2 ∧ ¬ p1 = 4 ∧ p1 = 8 ∧ ¬ p0 < 0 ∧ p0 < p1 ∧ r = 2) ∨ (¬ p1 = 2 ∧ ¬ p1 = 4 ∧ p1 = 8 ∧ ¬ p0 < 0 ∧ ¬ p0 < p1 ∧ r = 2) ∨ (¬ p1 = 2 ∧ ¬ p1 = 4 ∧ ¬ p1 = 8 ∧ r = 1)) (fun u t => xW D (va_A [(h0, .inr (0, [.ref h1, .ref h2, .ref h3, .ref h4, .ref h5, .ref h6, .ref h7])), (h4, .inr (4, [.ref h1, .ref h2, .ref h3, .ref d1, .ref d2, .ref d3])), (h1, .inr (1, [.ref a1, .ref a2, .ref a3, .ref a4, .ref a5, .ref a6, .int 0, .int 0])), (d3, .inl (K 0, 6, .inl (fun _ => 0))), (h9, .inl (K 3, 1, .inr (.inl (fun _ => 0))))] sz) ((fun (_ : Unit) => [(h9, .inl (K 3, 1, .inr (.inl (fun _ => 0))))]) u) t) (va_A [(h0, .inr (0, [.ref h1, .ref h2, .ref h3, .ref h4, .ref h5, .ref h6, .ref h7])), (h4, .inr (4, [.ref h1, .ref h2, .ref h3, .ref d1, .ref d2, .ref d3])), (h1, .inr (1, [.ref a1, .ref a2, .ref a3, .ref a4, .ref a5, .ref a6, .int 0, .int 0])), (d3, .inl (K 0, 6, .inl (fun _ => 0))), (h9, .inl (K 3, 1, .inr (.inl (fun _ => 0))))] sz)) 1 6 (va_A [(h0, .inr (0, [.ref h1, .ref h2, .ref h3, .ref h4, .ref h5, .ref h6, .ref h7])), (h4, .inr (4, [.ref h1, .ref h2, .ref h3, .ref d1, .ref d2, .ref d3])), (h1, .inr (1, [.ref a1, .ref a2, .ref a3, .ref a4, .ref a5, .ref a6, .int 0, .int 0])), (d3, .inl (K 0, 6, .inl (fun _ => 0))), (h9, .inl (K 3, 1, .inr (.inl (fun _ => 0))))] sz) := by
  refine va_MetW (cc := cL_breaks) (maxL := 5) (ret := (some .int)) (by decide) rfl ?_
  intro p e s m args below meth c s₁ B hml hv
  obtain ⟨rfl, hsz, hP, hD0, hE⟩ := hv
  have hx := B.exec
  have hb := B.bytes
  have hr := B.returns
  have hlocks := B.notSynchronized
  have hts := hE.1.ts ([.ref h0, .int p0, .int p1, .ref h9] : List Value).toArray
  have hnt := hE.1.nt ([.ref h0, .int p0, .int p1, .ref h9] : List Value).toArray
  have hK := hE.2.1
  have hown : s.vm.findClass RL = some m.cls := findClass_of_methodNamed B.named
  have htb := vx_table (x := yL_breaks) B (atoms_spec (ws := [.codeWith yL_breaks cL_breaks 5 (some .int) [(0, 10, 13, 13), (0, 10, 17, 72)]]) B.pre _ List.mem_cons_self)
  subst hsz
  have hD := hD0.self (sz := s.heap.size)
  generalize hAe : va_A [(h0, .inr (0, [.ref h1, .ref h2, .ref h3, .ref h4, .ref h5, .ref h6, .ref h7])), (h4, .inr (4, [.ref h1, .ref h2, .ref h3, .ref d1, .ref d2, .ref d3])), (h1, .inr (1, [.ref a1, .ref a2, .ref a3, .ref a4, .ref a5, .ref a6, .int 0, .int 0])), (d3, .inl (K 0, 6, .inl (fun _ => 0))), (h9, .inl (K 3, 1, .inr (.inl (fun _ => 0))))] s.heap.size = A at hD hE ⊢
  have hA : ∀ q : Nat, s.heap.size ≤ q → A q := fun q h => by rw [← hAe]; exact Or.inr h
  have hl := lv_entry ([.ref h0, .int p0, .int p1, .ref h9]) (n := 5) (Nat.le_of_ble_eq_true rfl)
  rw [lg_entry_eq]
  generalize (lg_sl ([.ref h0, .int p0, .int p1, .ref h9]) ++ List.replicate (5 - (lg_sl ([.ref h0, .int p0, .int p1, .ref h9])).length) Slot.unset).toArray = ls at hl ⊢
  have hl : lv_has ls 5 [(0, .ref h0), (1, .int p0), (2, .int p1), (3, .ref h9)] := hl
  generalize hH : s.heap = H at hP ⊢
  have hS : va_S A s.heap H [] := by rw [← hH]; exact va_S.rf
  refine lv_aload_n hx hb dL_breaks_0 rfl (lv_at hl 3 rfl) ?_
  refine lv_iconst (v := 0) hx hb dL_breaks_1 (by decide) ?_
  refine lv_aload_n hx hb dL_breaks_2 rfl (lv_at hl 0 rfl) ?_
  refine lv_iload_n hx hb dL_breaks_3 rfl (lv_at hl 1 rfl) ?_
  refine lv_iload_n hx hb dL_breaks_4 rfl (lv_at hl 2 rfl) ?_
  have hF := va_free (wc := [(h0, .inr (0, [.ref h1, .ref h2, .ref h3, .ref h4, .ref h5, .ref h6, .ref h7])), (h4, .inr (4, [.ref h1, .ref h2, .ref h3, .ref d1, .ref d2, .ref d3])), (h1, .inr (1, [.ref a1, .ref a2, .ref a3, .ref a4, .ref a5, .ref a6, .int 0, .int 0])), (d3, .inl (K 0, 6, .inl (fun _ => 0)))]) hD hS hA [0, 1, 2, 3] rfl
  refine xkx_i (px := fun E => (p1 = 2 ∧ p0 < 0 ∧ E = "java/lang/IndexOutOfBoundsException") ∨ (p1 = 2 ∧ ¬ p0 < 0 ∧ p0 < p1 ∧ E = "java/lang/IndexOutOfBoundsException") ∨ (p1 = 2 ∧ ¬ p0 < 0 ∧ ¬ p0 < p1 ∧ E = "java/lang/IndexOutOfBoundsException") ∨ (¬ p1 = 2 ∧ p1 = 4 ∧ p0 < 0 ∧ E = "java/lang/IndexOutOfBoundsException") ∨ (¬ p1 = 2 ∧ p1 = 4 ∧ ¬ p0 < 0 ∧ p0 < p1 ∧ E = "java/lang/IndexOutOfBoundsException") ∨ (¬ p1 = 2 ∧ p1 = 4 ∧ ¬ p0 < 0 ∧ ¬ p0 < p1 ∧ E = "java/lang/IndexOutOfBoundsException") ∨ (¬ p1 = 2 ∧ ¬ p1 = 4 ∧ p1 = 8 ∧ p0 < 0 ∧ E = "java/lang/IndexOutOfBoundsException") ∨ (¬ p1 = 2 ∧ ¬ p1 = 4 ∧ p1 = 8 ∧ ¬ p0 < 0 ∧ p0 < p1 ∧ E = "java/lang/IndexOutOfBoundsException") ∨ (¬ p1 = 2 ∧ ¬ p1 = 4 ∧ p1 = 8 ∧ ¬ p0 < 0 ∧ ¬ p0 < p1 ∧ E = "java/lang/IndexOutOfBoundsException") ∨ (¬ p1 = 2 ∧ ¬ p1 = 4 ∧ ¬ p1 = 8 ∧ E = "java/lang/IllegalArgumentException")) (w1 := fun (_ : Unit) => []) (wc := [(h0, .inr (0, [.ref h1, .ref h2, .ref h3, .ref h4, .ref h5, .ref h6, .ref h7])), (h4, .inr (4, [.ref h1, .ref h2, .ref h3, .ref d1, .ref d2, .ref d3])), (h1, .inr (1, [.ref a1, .ref a2, .ref a3, .ref a4, .ref a5, .ref a6, .int 0, .int 0])), (d3, .inl (K 0, 6, .inl (fun _ => 0)))]) (wr := [(h9, .inl (K 3, 1, .inr (.inl (fun _ => 0))))]) (vx_runV (As := [.int p0, .int p1]) (rest := [.int 0, .ref h9]) ⟨hx, hb, hml, hown, hts⟩ (c_X8_breaks l hst D K h0 h1 h2 h3 h4 h5 h6 h7 d1 d2 d3 a1 a2 a3 a4 a5 a6 H.size p0 p1) (cwV 2 hts xg_RL_X8_breaks_136 rfl rfl rfl (by decide +kernel) ⟨Nat.le_of_ble_eq_true rfl, Nat.le_of_ble_eq_true rfl⟩) ⟨xPre.blind, va_recv hK hP (ci := 0) (q0 := 0) rfl rfl, xPre.call hE hS (hP.sub [0, 1, 2, 3] rfl) (hD.sub [0, 1, 2, 3] (by decide) rfl) hF⟩ rfl rfl hl.1 rfl (lv_room (Nat.le_of_ble_eq_true rfl)) dL_breaks_5 ⟨Nat.le_of_ble_eq_true rfl, Nat.le_of_ble_eq_true rfl⟩) hP hD hS hF [0, 1, 2, 3] [4] rfl rfl rfl (by decide) (fun E9 ce9 q9 H locs hpx_4 hP hD hS hce hcv hcl => ?_) (fun r_2 u_1 H locs hw_3 hP hD hS => ?_)
  · rcases hpx_4 with ⟨c_5, c_6, rfl⟩ | ⟨c_7, c_8, c_9, rfl⟩ | ⟨c_10, c_11, c_12, rfl⟩ | ⟨c_13, c_14, c_15, rfl⟩ | ⟨c_16, c_17, c_18, c_19, rfl⟩ | ⟨c_20, c_21, c_22, c_23, rfl⟩ | ⟨c_24, c_25, c_26, c_27, rfl⟩ | ⟨c_28, c_29, c_30, c_31, c_32, rfl⟩ | ⟨c_33, c_34, c_35, c_36, c_37, rfl⟩ | ⟨c_38, c_39, c_40, rfl⟩
    · refine vx_catch (own := RL) (name := "java/lang/IndexOutOfBoundsException") hown (tableOf [(0, 10, 13, 13)]) ⟨0, 10, 17, 72⟩ (tableOf []) (htb.trans rfl) (xp1 (Or.inr ⟨by decide, "java/lang/IllegalArgumentException", hts _ xw7_4, hE.1.2.2.2.1 _ (List.mem_of_getElem? (i := 20) rfl)⟩) xp0) (by decide) (by decide) (hts _ xw31_5) (va_Nw.use rfl (hE.1.2.2.1 "java/lang/IndexOutOfBoundsException" (by decide +kernel))) hce hcv hcl ?_
      refine lv_astore (lv' := [(4, .ref q9), (0, .ref h0), (1, .int p0), (2, .int p1), (3, .ref h9)]) hx hb dL_breaks_17 hl (by decide) rfl (fun ls hl => ?_)
      refine lv_iconst (v := 2) hx hb dL_breaks_19 (by decide) ?_
      have hP9 : va_P D xCl [(h9, .inl (K 3, 1, .inr (.inl (fun _ => 0))))] H := hP.sub [0] rfl
      have hD9 : va_D A [(h9, .inl (K 3, 1, .inr (.inl (fun _ => 0))))] := hD.sub [0] (by decide) rfl
      refine W.widen (k := 1) (n := 6) (Nat.le_of_ble_eq_true rfl) (Nat.le_of_ble_eq_true rfl) ?_
      exact W.iret (v := 2) hx hb hr (fun t ht hW => ⟨⟨2, (), rfl, Or.inl ⟨c_5, c_6, rfl⟩, by rw [ht]; exact hP9, hD9⟩, hS.F ht⟩) hS.2.2 dL_breaks_20
    · refine vx_catch (own := RL) (name := "java/lang/IndexOutOfBoundsException") hown (tableOf [(0, 10, 13, 13)]) ⟨0, 10, 17, 72⟩ (tableOf []) (htb.trans rfl) (xp1 (Or.inr ⟨by decide, "java/lang/IllegalArgumentException", hts _ xw7_4, hE.1.2.2.2.1 _ (List.mem_of_getElem? (i := 20) rfl)⟩) xp0) (by decide) (by decide) (hts _ xw31_5) (va_Nw.use rfl (hE.1.2.2.1 "java/lang/IndexOutOfBoundsException" (by decide +kernel))) hce hcv hcl ?_
      refine lv_astore (lv' := [(4, .ref q9), (0, .ref h0), (1, .int p0), (2, .int p1), (3, .ref h9)]) hx hb dL_breaks_17 hl (by decide) rfl (fun ls hl => ?_)
      refine lv_iconst (v := 2) hx hb dL_breaks_19 (by decide) ?_
      have hP9 : va_P D xCl [(h9, .inl (K 3, 1, .inr (.inl (fun _ => 0))))] H := hP.sub [0] rfl
      have hD9 : va_D A [(h9, .inl (K 3, 1, .inr (.inl (fun _ => 0))))] := hD.sub [0] (by decide) rfl
      refine W.widen (k := 1) (n := 6) (Nat.le_of_ble_eq_true rfl) (Nat.le_of_ble_eq_true rfl) ?_
      exact W.iret (v := 2) hx hb hr (fun t ht hW => ⟨⟨2, (), rfl, Or.inr (Or.inl ⟨c_7, c_8, c_9, rfl⟩), by rw [ht]; exact hP9, hD9⟩, hS.F ht⟩) hS.2.2 dL_breaks_20
    · refine vx_catch (own := RL) (name := "java/lang/IndexOutOfBoundsException") hown (tableOf [(0, 10, 13, 13)]) ⟨0, 10, 17, 72⟩ (tableOf []) (htb.trans rfl) (xp1 (Or.inr ⟨by decide, "java/lang/IllegalArgumentException", hts _ xw7_4, hE.1.2.2.2.1 _ (List.mem_of_getElem? (i := 20) rfl)⟩) xp0) (by decide) (by decide) (hts _ xw31_5) (va_Nw.use rfl (hE.1.2.2.1 "java/lang/IndexOutOfBoundsException" (by decide +kernel))) hce hcv hcl ?_
      refine lv_astore (lv' := [(4, .ref q9), (0, .ref h0), (1, .int p0), (2, .int p1), (3, .ref h9)]) hx hb dL_breaks_17 hl (by decide) rfl (fun ls hl => ?_)
      refine lv_iconst (v := 2) hx hb dL_breaks_19 (by decide) ?_
      have hP9 : va_P D xCl [(h9, .inl (K 3, 1, .inr (.inl (fun _ => 0))))] H := hP.sub [0] rfl
      have hD9 : va_D A [(h9, .inl (K 3, 1, .inr (.inl (fun _ => 0))))] := hD.sub [0] (by decide) rfl
      refine W.widen (k := 1) (n := 6) (Nat.le_of_ble_eq_true rfl) (Nat.le_of_ble_eq_true rfl) ?_
      exact W.iret (v := 2) hx hb hr (fun t ht hW => ⟨⟨2, (), rfl, Or.inr (Or.inr (Or.inl ⟨c_10, c_11, c_12, rfl⟩)), by rw [ht]; exact hP9, hD9⟩, hS.F ht⟩) hS.2.2 dL_breaks_20
    · refine vx_catch (own := RL) (name := "java/lang/IndexOutOfBoundsException") hown (tableOf [(0, 10, 13, 13)]) ⟨0, 10, 17, 72⟩ (tableOf []) (htb.trans rfl) (xp1 (Or.inr ⟨by decide, "java/lang/IllegalArgumentException", hts _ xw7_4, hE.1.2.2.2.1 _ (List.mem_of_getElem? (i := 20) rfl)⟩) xp0) (by decide) (by decide) (hts _ xw31_5) (va_Nw.use rfl (hE.1.2.2.1 "java/lang/IndexOutOfBoundsException" (by decide +kernel))) hce hcv hcl ?_
      refine lv_astore (lv' := [(4, .ref q9), (0, .ref h0), (1, .int p0), (2, .int p1), (3, .ref h9)]) hx hb dL_breaks_17 hl (by decide) rfl (fun ls hl => ?_)
      refine lv_iconst (v := 2) hx hb dL_breaks_19 (by decide) ?_
      have hP9 : va_P D xCl [(h9, .inl (K 3, 1, .inr (.inl (fun _ => 0))))] H := hP.sub [0] rfl
      have hD9 : va_D A [(h9, .inl (K 3, 1, .inr (.inl (fun _ => 0))))] := hD.sub [0] (by decide) rfl
      refine W.widen (k := 1) (n := 6) (Nat.le_of_ble_eq_true rfl) (Nat.le_of_ble_eq_true rfl) ?_
      exact W.iret (v := 2) hx hb hr (fun t ht hW => ⟨⟨2, (), rfl, Or.inr (Or.inr (Or.inr (Or.inl ⟨c_13, c_14, c_15, rfl⟩))), by rw [ht]; exact hP9, hD9⟩, hS.F ht⟩) hS.2.2 dL_breaks_20
    · refine vx_catch (own := RL) (name := "java/lang/IndexOutOfBoundsException") hown (tableOf [(0, 10, 13, 13)]) ⟨0, 10, 17, 72⟩ (tableOf []) (htb.trans rfl) (xp1 (Or.inr ⟨by decide, "java/lang/IllegalArgumentException", hts _ xw7_4, hE.1.2.2.2.1 _ (List.mem_of_getElem? (i := 20) rfl)⟩) xp0) (by decide) (by decide) (hts _ xw31_5) (va_Nw.use rfl (hE.1.2.2.1 "java/lang/IndexOutOfBoundsException" (by decide +kernel))) hce hcv hcl ?_
      refine lv_astore (lv' := [(4, .ref q9), (0, .ref h0), (1, .int p0), (2, .int p1), (3, .ref h9)]) hx hb dL_breaks_17 hl (by decide) rfl (fun ls hl => ?_)
      refine lv_iconst (v := 2) hx hb dL_breaks_19 (by decide) ?_
      have hP9 : va_P D xCl [(h9, .inl (K 3, 1, .inr (.inl (fun _ => 0))))] H := hP.sub [0] rfl
      have hD9 : va_D A [(h9, .inl (K 3, 1, .inr (.inl (fun _ => 0))))] := hD.sub [0] (by decide) rfl
      refine W.widen (k := 1) (n := 6) (Nat.le_of_ble_eq_true rfl) (Nat.le_of_ble_eq_true rfl) ?_
      exact W.iret (v := 2) hx hb hr (fun t ht hW => ⟨⟨2, (), rfl, Or.inr (Or.inr (Or.inr (Or.inr (Or.inl ⟨c_16, c_17, c_18, c_19, rfl⟩)))), by rw [ht]; exact hP9, hD9⟩, hS.F ht⟩) hS.2.2 dL_breaks_20
    · refine vx_catch (own := RL) (name := "java/lang/IndexOutOfBoundsException") hown (tableOf [(0, 10, 13, 13)]) ⟨0, 10, 17, 72⟩ (tableOf []) (htb.trans rfl) (xp1 (Or.inr ⟨by decide, "java/lang/IllegalArgumentException", hts _ xw7_4, hE.1.2.2.2.1 _ (List.mem_of_getElem? (i := 20) rfl)⟩) xp0) (by decide) (by decide) (hts _ xw31_5) (va_Nw.use rfl (hE.1.2.2.1 "java/lang/IndexOutOfBoundsException" (by decide +kernel))) hce hcv hcl ?_
      refine lv_astore (lv' := [(4, .ref q9), (0, .ref h0), (1, .int p0), (2, .int p1), (3, .ref h9)]) hx hb dL_breaks_17 hl (by decide) rfl (fun ls hl => ?_)
      refine lv_iconst (v := 2) hx hb dL_breaks_19 (by decide) ?_
      have hP9 : va_P D xCl [(h9, .inl (K 3, 1, .inr (.inl (fun _ => 0))))] H := hP.sub [0] rfl
      have hD9 : va_D A [(h9, .inl (K 3, 1, .inr (.inl (fun _ => 0))))] := hD.sub [0] (by decide) rfl
      refine W.widen (k := 1) (n := 6) (Nat.le_of_ble_eq_true rfl) (Nat.le_of_ble_eq_true rfl) ?_
      exact W.iret (v := 2) hx hb hr (fun t ht hW => ⟨⟨2, (), rfl, Or.inr (Or.inr (Or.inr (Or.inr (Or.inr (Or.inl ⟨c_20, c_21, c_22, c_23, rfl⟩))))), by rw [ht]; exact hP9, hD9⟩, hS.F ht⟩) hS.2.2 dL_breaks_20
    · refine vx_catch (own := RL) (name := "java/lang/IndexOutOfBoundsException") hown (tableOf [(0, 10, 13, 13)]) ⟨0, 10, 17, 72⟩ (tableOf []) (htb.trans rfl) (xp1 (Or.inr ⟨by decide, "java/lang/IllegalArgumentException", hts _ xw7_4, hE.1.2.2.2.1 _ (List.mem_of_getElem? (i := 20) rfl)⟩) xp0) (by decide) (by decide) (hts _ xw31_5) (va_Nw.use rfl (hE.1.2.2.1 "java/lang/IndexOutOfBoundsException" (by decide +kernel))) hce hcv hcl ?_
      refine lv_astore (lv' := [(4, .ref q9), (0, .ref h0), (1, .int p0), (2, .int p1), (3, .ref h9)]) hx hb dL_breaks_17 hl (by decide) rfl (fun ls hl => ?_)
      refine lv_iconst (v := 2) hx hb dL_breaks_19 (by decide) ?_
      have hP9 : va_P D xCl [(h9, .inl (K 3, 1, .inr (.inl (fun _ => 0))))] H := hP.sub [0] rfl
      have hD9 : va_D A [(h9, .inl (K 3, 1, .inr (.inl (fun _ => 0))))] := hD.sub [0] (by decide) rfl
      refine W.widen (k := 1) (n := 6) (Nat.le_of_ble_eq_true rfl) (Nat.le_of_ble_eq_true rfl) ?_
      exact W.iret (v := 2) hx hb hr (fun t ht hW => ⟨⟨2, (), rfl, Or.inr (Or.inr (Or.inr (Or.inr (Or.inr (Or.inr (Or.inl ⟨c_24, c_25, c_26, c_27, rfl⟩)))))), by rw [ht]; exact hP9, hD9⟩, hS.F ht⟩) hS.2.2 dL_breaks_20
    · refine vx_catch (own := RL) (name := "java/lang/IndexOutOfBoundsException") hown (tableOf [(0, 10, 13, 13)]) ⟨0, 10, 17, 72⟩ (tableOf []) (htb.trans rfl) (xp1 (Or.inr ⟨by decide, "java/lang/IllegalArgumentException", hts _ xw7_4, hE.1.2.2.2.1 _ (List.mem_of_getElem? (i := 20) rfl)⟩) xp0) (by decide) (by decide) (hts _ xw31_5) (va_Nw.use rfl (hE.1.2.2.1 "java/lang/IndexOutOfBoundsException" (by decide +kernel))) hce hcv hcl ?_
      refine lv_astore (lv' := [(4, .ref q9), (0, .ref h0), (1, .int p0), (2, .int p1), (3, .ref h9)]) hx hb dL_breaks_17 hl (by decide) rfl (fun ls hl => ?_)
      refine lv_iconst (v := 2) hx hb dL_breaks_19 (by decide) ?_
      have hP9 : va_P D xCl [(h9, .inl (K 3, 1, .inr (.inl (fun _ => 0))))] H := hP.sub [0] rfl
      have hD9 : va_D A [(h9, .inl (K 3, 1, .inr (.inl (fun _ => 0))))] := hD.sub [0] (by decide) rfl
      refine W.widen (k := 1) (n := 6) (Nat.le_of_ble_eq_true rfl) (Nat.le_of_ble_eq_true rfl) ?_
      exact W.iret (v := 2) hx hb hr (fun t ht hW => ⟨⟨2, (), rfl, Or.inr (Or.inr (Or.inr (Or.inr (Or.inr (Or.inr (Or.inr (Or.inl ⟨c_28, c_29, c_30, c_31, c_32, rfl⟩))))))), by rw [ht]; exact hP9, hD9⟩, hS.F ht⟩) hS.2.2 dL_breaks_20
    · refine vx_catch (own := RL) (name := "java/lang/IndexOutOfBoundsException") hown (tableOf [(0, 10, 13, 13)]) ⟨0, 10, 17, 72⟩ (tableOf []) (htb.trans rfl) (xp1 (Or.inr ⟨by decide, "java/lang/IllegalArgumentException", hts _ xw7_4, hE.1.2.2.2.1 _ (List.mem_of_getElem? (i := 20) rfl)⟩) xp0) (by decide) (by decide) (hts _ xw31_5) (va_Nw.use rfl (hE.1.2.2.1 "java/lang/IndexOutOfBoundsException" (by decide +kernel))) hce hcv hcl ?_
      refine lv_astore (lv' := [(4, .ref q9), (0, .ref h0), (1, .int p0), (2, .int p1), (3, .ref h9)]) hx hb dL_breaks_17 hl (by decide) rfl (fun ls hl => ?_)
      refine lv_iconst (v := 2) hx hb dL_breaks_19 (by decide) ?_
      have hP9 : va_P D xCl [(h9, .inl (K 3, 1, .inr (.inl (fun _ => 0))))] H := hP.sub [0] rfl
      have hD9 : va_D A [(h9, .inl (K 3, 1, .inr (.inl (fun _ => 0))))] := hD.sub [0] (by decide) rfl
      refine W.widen (k := 1) (n := 6) (Nat.le_of_ble_eq_true rfl) (Nat.le_of_ble_eq_true rfl) ?_
      exact W.iret (v := 2) hx hb hr (fun t ht hW => ⟨⟨2, (), rfl, Or.inr (Or.inr (Or.inr (Or.inr (Or.inr (Or.inr (Or.inr (Or.inr (Or.inl ⟨c_33, c_34, c_35, c_36, c_37, rfl⟩)))))))), by rw [ht]; exact hP9, hD9⟩, hS.F ht⟩) hS.2.2 dL_breaks_20
    · refine vx_catch (own := RL) (name := "java/lang/IllegalArgumentException") hown (tableOf []) ⟨0, 10, 13, 13⟩ (tableOf [(0, 10, 17, 72)]) (htb.trans rfl) (fun z hz => absurd hz List.not_mem_nil) (by decide) (by decide) (hts _ xw7_4) (va_Nw.use rfl (hE.1.2.2.1 "java/lang/IllegalArgumentException" (by decide +kernel))) hce hcv hcl ?_
      refine lv_astore (lv' := [(4, .ref q9), (0, .ref h0), (1, .int p0), (2, .int p1), (3, .ref h9)]) hx hb dL_breaks_13 hl (by decide) rfl (fun ls hl => ?_)
      refine lv_iconst (v := 1) hx hb dL_breaks_15 (by decide) ?_
      have hP9 : va_P D xCl [(h9, .inl (K 3, 1, .inr (.inl (fun _ => 0))))] H := hP.sub [0] rfl
      have hD9 : va_D A [(h9, .inl (K 3, 1, .inr (.inl (fun _ => 0))))] := hD.sub [0] (by decide) rfl
      refine W.widen (k := 1) (n := 6) (Nat.le_of_ble_eq_true rfl) (Nat.le_of_ble_eq_true rfl) ?_
      exact W.iret (v := 1) hx hb hr (fun t ht hW => ⟨⟨1, (), rfl, Or.inr (Or.inr (Or.inr (Or.inr (Or.inr (Or.inr (Or.inr (Or.inr (Or.inr ⟨c_38, c_39, c_40, rfl⟩)))))))), by rw [ht]; exact hP9, hD9⟩, hS.F ht⟩) hS.2.2 dL_breaks_16
  · exact hw_3.elim
set_option maxHeartbeats 4000000 in
set_option maxRecDepth 100000 in
theorem c_L_people (l : Launch) (hst : l.stackTraces = false) (D : va_G) (K : Nat → ClassId) (h0 h9 h1 h2 h3 h4 h5 h6 h7 a1 a2 a3 a4 a5 a6 : Nat) (sz : Nat) (p0 : Int32) : Met l yL_people [.codeWith yL_people cL_people 4 (some .int) [(0, 9, 12, 13)]] ({ frames := 7, cells := 1, slots := 6, locals := 103 }) (xPre D K [.ref h0, .int p0, .ref h9] [(h0, .inr (0, [.ref h1, .ref h2, .ref h3, .ref h4, .ref h5, .ref h6, .ref h7])), (h1, .inr (1, [.ref a1, .ref a2, .ref a3, .ref a4, .ref a5, .ref a6, .int 0, .int 0])), (h9, .inl (K 3, 1, .inr (.inl (fun _ => 0))))] sz) (va_Qi (fun (r : Int32) (u : Nat → Int64) => (¬ p0 = 116 ∧ ¬ p0 = 106 ∧ r = 1 ∧ u = (fun _ => 0)) ∨ (p0 = 116 ∧ r = 0 ∧ u = (vp_updL (fun _ => 0) ((0 : Int32).toNatClampNeg) 0)) ∨ (¬ p0 = 116 ∧ p0 = 106 ∧ r = 0 ∧ u = (vp_updL (fun _ => 0) ((0 : Int32).toNatClampNeg) 0))) (fun u t => xW D (va_A [(h0, .inr (0, [.ref h1, .ref h2, .ref h3, .ref h4, .ref h5, .ref h6, .ref h7])), (h1, .inr (1, [.ref a1, .ref a2, .ref a3, .ref a4, .ref a5, .ref a6, .int 0, .int 0])), (h9, .inl (K 3, 1, .inr (.inl (fun _ => 0))))] sz) ((fun (u : Nat → Int64) => [(h9, .inl (K 3, 1, .inr (.inl u)))]) u) t) (va_A [(h0, .inr (0, [.ref h1, .ref h2, .ref h3, .ref h4, .ref h5, .ref h6, .ref h7])), (h1, .inr (1, [.ref a1, .ref a2, .ref a3, .ref a4, .ref a5, .ref a6, .int 0, .int 0])), (h9, .inl (K 3, 1, .inr (.inl (fun _ => 0))))] sz)) 1 6 (va_A [(h0, .inr (0, [.ref h1, .ref h2, .ref h3, .ref h4, .ref h5, .ref h6, .ref h7])), (h1, .inr (1, [.ref a1, .ref a2, .ref a3, .ref a4, .ref a5, .ref a6, .int 0, .int 0])), (h9, .inl (K 3, 1, .inr (.inl (fun _ => 0))))] sz) := by
  refine va_MetW (cc := cL_people) (maxL := 4) (ret := (some .int)) (by decide) rfl ?_
  intro p e s m args below meth c s₁ B hml hv
  obtain ⟨rfl, hsz, hP, hD0, hE⟩ := hv
  have hx := B.exec
  have hb := B.bytes
  have hr := B.returns
  have hlocks := B.notSynchronized
  have hts := hE.1.ts ([.ref h0, .int p0, .ref h9] : List Value).toArray
  have hnt := hE.1.nt ([.ref h0, .int p0, .ref h9] : List Value).toArray
  have hK := hE.2.1
  have hown : s.vm.findClass RL = some m.cls := findClass_of_methodNamed B.named
  have htb := vx_table (x := yL_people) B (atoms_spec (ws := [.codeWith yL_people cL_people 4 (some .int) [(0, 9, 12, 13)]]) B.pre _ List.mem_cons_self)
  subst hsz
  have hD := hD0.self (sz := s.heap.size)
  generalize hAe : va_A [(h0, .inr (0, [.ref h1, .ref h2, .ref h3, .ref h4, .ref h5, .ref h6, .ref h7])), (h1, .inr (1, [.ref a1, .ref a2, .ref a3, .ref a4, .ref a5, .ref a6, .int 0, .int 0])), (h9, .inl (K 3, 1, .inr (.inl (fun _ => 0))))] s.heap.size = A at hD hE ⊢
  have hA : ∀ q : Nat, s.heap.size ≤ q → A q := fun q h => by rw [← hAe]; exact Or.inr h
  have hl := lv_entry ([.ref h0, .int p0, .ref h9]) (n := 4) (Nat.le_of_ble_eq_true rfl)
  rw [lg_entry_eq]
  generalize (lg_sl ([.ref h0, .int p0, .ref h9]) ++ List.replicate (4 - (lg_sl ([.ref h0, .int p0, .ref h9])).length) Slot.unset).toArray = ls at hl ⊢
  have hl : lv_has ls 4 [(0, .ref h0), (1, .int p0), (2, .ref h9)] := hl
  generalize hH : s.heap = H at hP ⊢
  have hS : va_S A s.heap H [] := by rw [← hH]; exact va_S.rf
  refine lv_aload_n hx hb dL_people_0 rfl (lv_at hl 2 rfl) ?_
  refine lv_iconst (v := 0) hx hb dL_people_1 (by decide) ?_
  refine lv_aload_n hx hb dL_people_2 rfl (lv_at hl 0 rfl) ?_
  refine lv_iload_n hx hb dL_people_3 rfl (lv_at hl 1 rfl) ?_
  have hF := va_free (wc := [(h0, .inr (0, [.ref h1, .ref h2, .ref h3, .ref h4, .ref h5, .ref h6, .ref h7])), (h1, .inr (1, [.ref a1, .ref a2, .ref a3, .ref a4, .ref a5, .ref a6, .int 0, .int 0]))]) hD hS hA [0, 1] rfl
  refine xkx_i (px := fun E => ¬ p0 = 116 ∧ ¬ p0 = 106 ∧ E = "java/lang/IllegalArgumentException") (w1 := fun (_ : Unit) => []) (wc := [(h0, .inr (0, [.ref h1, .ref h2, .ref h3, .ref h4, .ref h5, .ref h6, .ref h7])), (h1, .inr (1, [.ref a1, .ref a2, .ref a3, .ref a4, .ref a5, .ref a6, .int 0, .int 0]))]) (wr := [(h9, .inl (K 3, 1, .inr (.inl (fun _ => 0))))]) (vx_runV (As := [.int p0]) (rest := [.int 0, .ref h9]) ⟨hx, hb, hml, hown, hts⟩ (c_X8_people l hst D K h0 h1 h2 h3 h4 h5 h6 h7 a1 a2 a3 a4 a5 a6 H.size p0) (cwV 1 hts xg_RL_X8_people_139 rfl rfl rfl (by decide +kernel) ⟨Nat.le_of_ble_eq_true rfl, Nat.le_of_ble_eq_true rfl⟩) ⟨xPre.blind, va_recv hK hP (ci := 0) (q0 := 0) rfl rfl, xPre.call hE hS (hP.sub [0, 1] rfl) (hD.sub [0, 1] (by decide) rfl) hF⟩ rfl rfl hl.1 rfl (lv_room (Nat.le_of_ble_eq_true rfl)) dL_people_4 ⟨Nat.le_of_ble_eq_true rfl, Nat.le_of_ble_eq_true rfl⟩) hP hD hS hF [0, 1] [2] rfl rfl rfl (by decide) (fun E9 ce9 q9 H locs hpx_4 hP hD hS hce hcv hcl => ?_) (fun r_2 u_1 H locs hw_3 hP hD hS => ?_)
  · obtain ⟨c_5, c_6, rfl⟩ := hpx_4
    refine vx_catch (own := RL) (name := "java/lang/IllegalArgumentException") hown (tableOf []) ⟨0, 9, 12, 13⟩ (tableOf []) (htb.trans rfl) (fun z hz => absurd hz List.not_mem_nil) (by decide) (by decide) (hts _ xw7_4) (va_Nw.use rfl (hE.1.2.2.1 "java/lang/IllegalArgumentException" (by decide +kernel))) hce hcv hcl ?_
    refine lv_astore_n (lv' := [(3, .ref q9), (0, .ref h0), (1, .int p0), (2, .ref h9)]) hx hb dL_people_12 rfl hl (by decide) rfl (fun ls hl => ?_)
    refine lv_iconst (v := 1) hx hb dL_people_13 (by decide) ?_
    have hP9 : va_P D xCl [(h9, .inl (K 3, 1, .inr (.inl (fun _ => 0))))] H := hP.sub [0] rfl
    have hD9 : va_D A [(h9, .inl (K 3, 1, .inr (.inl (fun _ => 0))))] := hD.sub [0] (by decide) rfl
    refine W.widen (k := 1) (n := 6) (Nat.le_of_ble_eq_true rfl) (Nat.le_of_ble_eq_true rfl) ?_
    exact W.iret (v := 1) hx hb hr (fun t ht hW => ⟨⟨1, fun _ => 0, rfl, Or.inl ⟨c_5, c_6, rfl, rfl⟩, by rw [ht]; exact hP9, hD9⟩, hS.F ht⟩) hS.2.2 dL_people_14
  · rcases hw_3 with ⟨c_7, rfl⟩ | ⟨c_8, c_9, rfl⟩
    · have hP : va_P D xCl [(h9, .inl (K 3, 1, .inr (.inl (fun _ => 0))))] H := hP
      have hD : va_D A [(h9, .inl (K 3, 1, .inr (.inl (fun _ => 0))))] := hD
      refine W.widen (k := 1) (n := 6) (Nat.le_of_ble_eq_true rfl) (Nat.le_of_ble_eq_true rfl) ?_
      refine lv_i2l (v := 0) hx hb dL_people_7 (by decide) ?_
      refine va_last hx hb hK hP hD hS 0 3 rfl rfl (by unfold vp_in; decide) dL_people_8 (fun H locs hP hD hS => ?_)
      have hP : va_P D xCl [(h9, .inl (K 3, 1, .inr (.inl (vp_updL (fun _ => 0) ((0 : Int32).toNatClampNeg) 0))))] H := hP
      have hD : va_D A [(h9, .inl (K 3, 1, .inr (.inl (vp_updL (fun _ => 0) ((0 : Int32).toNatClampNeg) 0))))] := hD
      refine lv_goto (tgt := 15) hx hb dL_people_9 (by decide) ?_
      refine lv_iconst (v := 0) hx hb dL_people_15 (by decide) ?_
      have hP9 : va_P D xCl [(h9, .inl (K 3, 1, .inr (.inl (vp_updL (fun _ => 0) ((0 : Int32).toNatClampNeg) 0))))] H := hP.sub [0] rfl
      have hD9 : va_D A [(h9, .inl (K 3, 1, .inr (.inl (vp_updL (fun _ => 0) ((0 : Int32).toNatClampNeg) 0))))] := hD.sub [0] (by decide) rfl
      refine W.widen (k := 1) (n := 6) (Nat.le_of_ble_eq_true rfl) (Nat.le_of_ble_eq_true rfl) ?_
      exact W.iret (v := 0) hx hb hr (fun t ht hW => ⟨⟨0, (vp_updL (fun _ => 0) ((0 : Int32).toNatClampNeg) 0), rfl, Or.inr (Or.inl ⟨c_7, rfl, rfl⟩), by rw [ht]; exact hP9, hD9⟩, hS.F ht⟩) hS.2.2 dL_people_16
    · have hP : va_P D xCl [(h9, .inl (K 3, 1, .inr (.inl (fun _ => 0))))] H := hP
      have hD : va_D A [(h9, .inl (K 3, 1, .inr (.inl (fun _ => 0))))] := hD
      refine W.widen (k := 1) (n := 6) (Nat.le_of_ble_eq_true rfl) (Nat.le_of_ble_eq_true rfl) ?_
      refine lv_i2l (v := 0) hx hb dL_people_7 (by decide) ?_
      refine va_last hx hb hK hP hD hS 0 3 rfl rfl (by unfold vp_in; decide) dL_people_8 (fun H locs hP hD hS => ?_)
      have hP : va_P D xCl [(h9, .inl (K 3, 1, .inr (.inl (vp_updL (fun _ => 0) ((0 : Int32).toNatClampNeg) 0))))] H := hP
      have hD : va_D A [(h9, .inl (K 3, 1, .inr (.inl (vp_updL (fun _ => 0) ((0 : Int32).toNatClampNeg) 0))))] := hD
      refine lv_goto (tgt := 15) hx hb dL_people_9 (by decide) ?_
      refine lv_iconst (v := 0) hx hb dL_people_15 (by decide) ?_
      have hP9 : va_P D xCl [(h9, .inl (K 3, 1, .inr (.inl (vp_updL (fun _ => 0) ((0 : Int32).toNatClampNeg) 0))))] H := hP.sub [0] rfl
      have hD9 : va_D A [(h9, .inl (K 3, 1, .inr (.inl (vp_updL (fun _ => 0) ((0 : Int32).toNatClampNeg) 0))))] := hD.sub [0] (by decide) rfl
      refine W.widen (k := 1) (n := 6) (Nat.le_of_ble_eq_true rfl) (Nat.le_of_ble_eq_true rfl) ?_
      exact W.iret (v := 0) hx hb hr (fun t ht hW => ⟨⟨0, (vp_updL (fun _ => 0) ((0 : Int32).toNatClampNeg) 0), rfl, Or.inr (Or.inr ⟨c_8, c_9, rfl, rfl⟩), by rw [ht]; exact hP9, hD9⟩, hS.F ht⟩) hS.2.2 dL_people_16
set_option maxHeartbeats 4000000 in
set_option maxRecDepth 100000 in
theorem c_L_meanPenalty (l : Launch) (hst : l.stackTraces = false) (D : va_G) (K : Nat → ClassId) (h0 h9 h1 h2 h3 h4 h5 h6 h7 c1 : Nat) (sz : Nat) : Met l yL_meanPenalty [.codeWith yL_meanPenalty cL_meanPenalty 3 (some .int) [(0, 7, 10, 125)]] ({ frames := 7, cells := 1, slots := 6, locals := 103 }) (xPre D K [.ref h0, .ref h9] [(h0, .inr (0, [.ref h1, .ref h2, .ref h3, .ref h4, .ref h5, .ref h6, .ref h7])), (h3, .inr (3, [.ref h1, .ref c1, .int 0])), (h9, .inl (K 4, 1, .inr (.inr (.inr (.inl (fun _ => 0))))))] sz) (va_Qi (fun (r : Int32) (u : Unit) => r = 1) (fun u t => xW D (va_A [(h0, .inr (0, [.ref h1, .ref h2, .ref h3, .ref h4, .ref h5, .ref h6, .ref h7])), (h3, .inr (3, [.ref h1, .ref c1, .int 0])), (h9, .inl (K 4, 1, .inr (.inr (.inr (.inl (fun _ => 0))))))] sz) ((fun (_ : Unit) => [(h9, .inl (K 4, 1, .inr (.inr (.inr (.inl (fun _ => 0))))))]) u) t) (va_A [(h0, .inr (0, [.ref h1, .ref h2, .ref h3, .ref h4, .ref h5, .ref h6, .ref h7])), (h3, .inr (3, [.ref h1, .ref c1, .int 0])), (h9, .inl (K 4, 1, .inr (.inr (.inr (.inl (fun _ => 0))))))] sz)) 1 6 (va_A [(h0, .inr (0, [.ref h1, .ref h2, .ref h3, .ref h4, .ref h5, .ref h6, .ref h7])), (h3, .inr (3, [.ref h1, .ref c1, .int 0])), (h9, .inl (K 4, 1, .inr (.inr (.inr (.inl (fun _ => 0))))))] sz) := by
  refine va_MetW (cc := cL_meanPenalty) (maxL := 3) (ret := (some .int)) (by decide) rfl ?_
  intro p e s m args below meth c s₁ B hml hv
  obtain ⟨rfl, hsz, hP, hD0, hE⟩ := hv
  have hx := B.exec
  have hb := B.bytes
  have hr := B.returns
  have hlocks := B.notSynchronized
  have hts := hE.1.ts ([.ref h0, .ref h9] : List Value).toArray
  have hnt := hE.1.nt ([.ref h0, .ref h9] : List Value).toArray
  have hK := hE.2.1
  have hown : s.vm.findClass RL = some m.cls := findClass_of_methodNamed B.named
  have htb := vx_table (x := yL_meanPenalty) B (atoms_spec (ws := [.codeWith yL_meanPenalty cL_meanPenalty 3 (some .int) [(0, 7, 10, 125)]]) B.pre _ List.mem_cons_self)
  subst hsz
  have hD := hD0.self (sz := s.heap.size)
  generalize hAe : va_A [(h0, .inr (0, [.ref h1, .ref h2, .ref h3, .ref h4, .ref h5, .ref h6, .ref h7])), (h3, .inr (3, [.ref h1, .ref c1, .int 0])), (h9, .inl (K 4, 1, .inr (.inr (.inr (.inl (fun _ => 0))))))] s.heap.size = A at hD hE ⊢
  have hA : ∀ q : Nat, s.heap.size ≤ q → A q := fun q h => by rw [← hAe]; exact Or.inr h
  have hl := lv_entry ([.ref h0, .ref h9]) (n := 3) (Nat.le_of_ble_eq_true rfl)
  rw [lg_entry_eq]
  generalize (lg_sl ([.ref h0, .ref h9]) ++ List.replicate (3 - (lg_sl ([.ref h0, .ref h9])).length) Slot.unset).toArray = ls at hl ⊢
  have hl : lv_has ls 3 [(0, .ref h0), (1, .ref h9)] := hl
  generalize hH : s.heap = H at hP ⊢
  have hS : va_S A s.heap H [] := by rw [← hH]; exact va_S.rf
  refine lv_aload_n hx hb dL_meanPenalty_0 rfl (lv_at hl 1 rfl) ?_
  refine lv_iconst (v := 0) hx hb dL_meanPenalty_1 (by decide) ?_
  refine lv_aload_n hx hb dL_meanPenalty_2 rfl (lv_at hl 0 rfl) ?_
  have hF := va_free (wc := [(h0, .inr (0, [.ref h1, .ref h2, .ref h3, .ref h4, .ref h5, .ref h6, .ref h7])), (h3, .inr (3, [.ref h1, .ref c1, .int 0]))]) hD hS hA [0, 1] rfl
  refine xkx_d (px := fun E => E = "java/lang/ArithmeticException") (w1 := fun (_ : Unit) => []) (wc := [(h0, .inr (0, [.ref h1, .ref h2, .ref h3, .ref h4, .ref h5, .ref h6, .ref h7])), (h3, .inr (3, [.ref h1, .ref c1, .int 0]))]) (wr := [(h9, .inl (K 4, 1, .inr (.inr (.inr (.inl (fun _ => 0))))))]) (vx_runV (As := []) (rest := [.int 0, .ref h9]) ⟨hx, hb, hml, hown, hts⟩ (c_X8_meanPenalty l hst D K h0 h1 h2 h3 h4 h5 h6 h7 c1 H.size) (cwV 0 hts xg_RL_X8_meanPenalty_143 rfl rfl rfl (by decide +kernel) ⟨Nat.le_of_ble_eq_true rfl, Nat.le_of_ble_eq_true rfl⟩) ⟨xPre.blind, va_recv hK hP (ci := 0) (q0 := 0) rfl rfl, xPre.call hE hS (hP.sub [0, 1] rfl) (hD.sub [0, 1] (by decide) rfl) hF⟩ rfl rfl hl.1 rfl (lv_room (Nat.le_of_ble_eq_true rfl)) dL_meanPenalty_3 ⟨Nat.le_of_ble_eq_true rfl, Nat.le_of_ble_eq_true rfl⟩) hP hD hS hF [0, 1] [2] rfl rfl rfl (by decide) (fun E9 ce9 q9 H locs hpx_4 hP hD hS hce hcv hcl => ?_) (fun r_2 u_1 H locs hw_3 hP hD hS => ?_)
  · obtain rfl := hpx_4
    refine vx_catch (own := RL) (name := "java/lang/ArithmeticException") hown (tableOf []) ⟨0, 7, 10, 125⟩ (tableOf []) (htb.trans rfl) (fun z hz => absurd hz List.not_mem_nil) (by decide) (by decide) (hts _ xw41_3) (va_Nw.use rfl (hE.1.2.2.1 "java/lang/ArithmeticException" (by decide +kernel))) hce hcv hcl ?_
    refine lv_astore_n (lv' := [(2, .ref q9), (0, .ref h0), (1, .ref h9)]) hx hb dL_meanPenalty_10 rfl hl (by decide) rfl (fun ls hl => ?_)
    refine lv_iconst (v := 1) hx hb dL_meanPenalty_11 (by decide) ?_
    have hP9 : va_P D xCl [(h9, .inl (K 4, 1, .inr (.inr (.inr (.inl (fun _ => 0))))))] H := hP.sub [0] rfl
    have hD9 : va_D A [(h9, .inl (K 4, 1, .inr (.inr (.inr (.inl (fun _ => 0))))))] := hD.sub [0] (by decide) rfl
    refine W.widen (k := 1) (n := 6) (Nat.le_of_ble_eq_true rfl) (Nat.le_of_ble_eq_true rfl) ?_
    exact W.iret (v := 1) hx hb hr (fun t ht hW => ⟨⟨1, (), rfl, rfl, by rw [ht]; exact hP9, hD9⟩, hS.F ht⟩) hS.2.2 dL_meanPenalty_12
  · exact hw_3.elim
