set_option maxHeartbeats 4000000 in
set_option maxRecDepth 100000 in
theorem c_L_addTeam (l : Launch) (hst : l.stackTraces = false) (D : va_G) (K : Nat → ClassId) (h0 h9 h1 h2 h3 h4 h5 h6 h7 a1 a2 a3 a4 a5 a6 : Nat) (sz : Nat) (p0 : Int32) : Met l yL_addTeam [.codeWith yL_addTeam cL_addTeam 4 (some .int) [(0, 9, 12, 13), (0, 9, 15, 15)]] ({ frames := 7, cells := 1, slots := 6, locals := 103 }) (xPre D K [.ref h0, .int p0, .ref h9] [(h0, .inr (0, [.ref h1, .ref h2, .ref h3, .ref h4, .ref h5, .ref h6, .ref h7])), (h1, .inr (1, [.ref a1, .ref a2, .ref a3, .ref a4, .ref a5, .ref a6, .int 0, .int 0])), (a1, .inl (K 0, 12, .inl (fun _ => 0))), (a2, .inl (K 1, 12, .inl (fun _ => 0))), (a3, .inl (K 0, 12, .inl (fun _ => 0))), (h9, .inl (K 3, 1, .inr (.inl (fun _ => 0))))] sz) (va_Qi (fun (r : Int32) (u : Nat → Int64) => (p0 < 0 ∧ r = 1 ∧ u = (fun _ => 0)) ∨ (¬ p0 < 0 ∧ 6 ≤ p0 ∧ r = 1 ∧ u = (fun _ => 0)) ∨ (¬ p0 < 0 ∧ ¬ 6 ≤ p0 ∧ r = 0 ∧ u = (vp_updL (fun _ => 0) ((0 : Int32).toNatClampNeg) 0))) (fun u t => xW D (va_A [(h0, .inr (0, [.ref h1, .ref h2, .ref h3, .ref h4, .ref h5, .ref h6, .ref h7])), (h1, .inr (1, [.ref a1, .ref a2, .ref a3, .ref a4, .ref a5, .ref a6, .int 0, .int 0])), (a1, .inl (K 0, 12, .inl (fun _ => 0))), (a2, .inl (K 1, 12, .inl (fun _ => 0))), (a3, .inl (K 0, 12, .inl (fun _ => 0))), (h9, .inl (K 3, 1, .inr (.inl (fun _ => 0))))] sz) ((fun (u : Nat → Int64) => [(h9, .inl (K 3, 1, .inr (.inl u)))]) u) t) (va_A [(h0, .inr (0, [.ref h1, .ref h2, .ref h3, .ref h4, .ref h5, .ref h6, .ref h7])), (h1, .inr (1, [.ref a1, .ref a2, .ref a3, .ref a4, .ref a5, .ref a6, .int 0, .int 0])), (a1, .inl (K 0, 12, .inl (fun _ => 0))), (a2, .inl (K 1, 12, .inl (fun _ => 0))), (a3, .inl (K 0, 12, .inl (fun _ => 0))), (h9, .inl (K 3, 1, .inr (.inl (fun _ => 0))))] sz)) 1 6 (va_A [(h0, .inr (0, [.ref h1, .ref h2, .ref h3, .ref h4, .ref h5, .ref h6, .ref h7])), (h1, .inr (1, [.ref a1, .ref a2, .ref a3, .ref a4, .ref a5, .ref a6, .int 0, .int 0])), (a1, .inl (K 0, 12, .inl (fun _ => 0))), (a2, .inl (K 1, 12, .inl (fun _ => 0))), (a3, .inl (K 0, 12, .inl (fun _ => 0))), (h9, .inl (K 3, 1, .inr (.inl (fun _ => 0))))] sz) := by
  refine va_MetW (cc := cL_addTeam) (maxL := 4) (ret := (some .int)) (by decide) rfl ?_
  intro p e s m args below meth c s₁ B hml hv
  obtain ⟨rfl, hsz, hP, hD0, hE⟩ := hv
  have hx := B.exec
  have hb := B.bytes
  have hr := B.returns
  have hlocks := B.notSynchronized
  have hts := hE.1.ts ([.ref h0, .int p0, .ref h9] : List Value).toArray
  have hnt := hE.1.nt ([.ref h0, .int p0, .ref h9] : List Value).toArray
  have hK := hE.2.1
  have hown : s.vm.findClass RL = some m.cls := findClass_of_methodNamed B.named
  have htb := vx_table (x := yL_addTeam) B (atoms_spec (ws := [.codeWith yL_addTeam cL_addTeam 4 (some .int) [(0, 9, 12, 13), (0, 9, 15, 15)]]) B.pre _ List.mem_cons_self)
  subst hsz
  have hD := hD0.self (sz := s.heap.size)
  generalize hAe : va_A [(h0, .inr (0, [.ref h1, .ref h2, .ref h3, .ref h4, .ref h5, .ref h6, .ref h7])), (h1, .inr (1, [.ref a1, .ref a2, .ref a3, .ref a4, .ref a5, .ref a6, .int 0, .int 0])), (a1, .inl (K 0, 12, .inl (fun _ => 0))), (a2, .inl (K 1, 12, .inl (fun _ => 0))), (a3, .inl (K 0, 12, .inl (fun _ => 0))), (h9, .inl (K 3, 1, .inr (.inl (fun _ => 0))))] s.heap.size = A at hD hE ⊢
  have hA : ∀ q : Nat, s.heap.size ≤ q → A q := fun q h => by rw [← hAe]; exact Or.inr h
  have hl := lv_entry ([.ref h0, .int p0, .ref h9]) (n := 4) (Nat.le_of_ble_eq_true rfl)
  rw [lg_entry_eq]
  generalize (lg_sl ([.ref h0, .int p0, .ref h9]) ++ List.replicate (4 - (lg_sl ([.ref h0, .int p0, .ref h9])).length) Slot.unset).toArray = ls at hl ⊢
  have hl : lv_has ls 4 [(0, .ref h0), (1, .int p0), (2, .ref h9)] := hl
  generalize hH : s.heap = H at hP ⊢
  have hS : va_S A s.heap H [] := by rw [← hH]; exact va_S.rf
  refine lv_aload_n hx hb dL_addTeam_0 rfl (lv_at hl 2 rfl) ?_
  refine lv_iconst (v := 0) hx hb dL_addTeam_1 (by decide) ?_
  refine lv_aload_n hx hb dL_addTeam_2 rfl (lv_at hl 0 rfl) ?_
  refine lv_iload_n hx hb dL_addTeam_3 rfl (lv_at hl 1 rfl) ?_
  have hF := va_free (wc := [(h0, .inr (0, [.ref h1, .ref h2, .ref h3, .ref h4, .ref h5, .ref h6, .ref h7])), (h1, .inr (1, [.ref a1, .ref a2, .ref a3, .ref a4, .ref a5, .ref a6, .int 0, .int 0])), (a1, .inl (K 0, 12, .inl (fun _ => 0))), (a2, .inl (K 1, 12, .inl (fun _ => 0))), (a3, .inl (K 0, 12, .inl (fun _ => 0)))]) hD hS hA [0, 1, 2, 3, 4] rfl
  refine xkx_i (px := fun E => (p0 < 0 ∧ E = "java/lang/IllegalArgumentException") ∨ (¬ p0 < 0 ∧ 6 ≤ p0 ∧ E = "java/lang/IllegalArgumentException")) (w1 := fun (_ : Unit) => []) (wc := [(h0, .inr (0, [.ref h1, .ref h2, .ref h3, .ref h4, .ref h5, .ref h6, .ref h7])), (h1, .inr (1, [.ref a1, .ref a2, .ref a3, .ref a4, .ref a5, .ref a6, .int 0, .int 0])), (a1, .inl (K 0, 12, .inl (fun _ => 0))), (a2, .inl (K 1, 12, .inl (fun _ => 0))), (a3, .inl (K 0, 12, .inl (fun _ => 0)))]) (wr := [(h9, .inl (K 3, 1, .inr (.inl (fun _ => 0))))]) (vx_runV (As := [.int p0]) (rest := [.int 0, .ref h9]) ⟨hx, hb, hml, hown, hts⟩ (c_X8_addTeam l hst D K h0 h1 h2 h3 h4 h5 h6 h7 a1 a2 a3 a4 a5 a6 H.size p0) (cwV 1 hts xg_RL_X8_addTeam_7 rfl rfl rfl (by decide +kernel) ⟨Nat.le_of_ble_eq_true rfl, Nat.le_of_ble_eq_true rfl⟩) ⟨xPre.blind, va_recv hK hP (ci := 0) (q0 := 0) rfl rfl, xPre.call hE hS (hP.sub [0, 1, 2, 3, 4] rfl) (hD.sub [0, 1, 2, 3, 4] (by decide) rfl) hF⟩ rfl rfl hl.1 rfl (lv_room (Nat.le_of_ble_eq_true rfl)) dL_addTeam_4 ⟨Nat.le_of_ble_eq_true rfl, Nat.le_of_ble_eq_true rfl⟩) hP hD hS hF [0, 1, 2, 3, 4] [5] rfl rfl rfl (by decide) (fun E9 ce9 q9 H locs hpx_4 hP hD hS hce hcv hcl => ?_) (fun r_2 u_1 H locs hw_3 hP hD hS => ?_)
  · rcases hpx_4 with ⟨c_5, rfl⟩ | ⟨c_6, c_7, rfl⟩
    · refine vx_catch (own := RL) (name := "java/lang/IllegalArgumentException") hown (tableOf []) ⟨0, 9, 12, 13⟩ (tableOf [(0, 9, 15, 15)]) (htb.trans rfl) (fun z hz => absurd hz List.not_mem_nil) (by decide) (by decide) (hts _ xw7_4) (va_Nw.use rfl (hE.1.2.2.1 "java/lang/IllegalArgumentException" (by decide +kernel))) hce hcv hcl ?_
      refine lv_astore_n (lv' := [(3, .ref q9), (0, .ref h0), (1, .int p0), (2, .ref h9)]) hx hb dL_addTeam_12 rfl hl (by decide) rfl (fun ls hl => ?_)
      refine lv_iconst (v := 1) hx hb dL_addTeam_13 (by decide) ?_
      have hP9 : va_P D xCl [(h9, .inl (K 3, 1, .inr (.inl (fun _ => 0))))] H := hP.sub [0] rfl
      have hD9 : va_D A [(h9, .inl (K 3, 1, .inr (.inl (fun _ => 0))))] := hD.sub [0] (by decide) rfl
      refine W.widen (k := 1) (n := 6) (Nat.le_of_ble_eq_true rfl) (Nat.le_of_ble_eq_true rfl) ?_
      exact W.iret (v := 1) hx hb hr (fun t ht hW => ⟨⟨1, fun _ => 0, rfl, Or.inl ⟨c_5, rfl, rfl⟩, by rw [ht]; exact hP9, hD9⟩, hS.F ht⟩) hS.2.2 dL_addTeam_14
    · refine vx_catch (own := RL) (name := "java/lang/IllegalArgumentException") hown (tableOf []) ⟨0, 9, 12, 13⟩ (tableOf [(0, 9, 15, 15)]) (htb.trans rfl) (fun z hz => absurd hz List.not_mem_nil) (by decide) (by decide) (hts _ xw7_4) (va_Nw.use rfl (hE.1.2.2.1 "java/lang/IllegalArgumentException" (by decide +kernel))) hce hcv hcl ?_
      refine lv_astore_n (lv' := [(3, .ref q9), (0, .ref h0), (1, .int p0), (2, .ref h9)]) hx hb dL_addTeam_12 rfl hl (by decide) rfl (fun ls hl => ?_)
      refine lv_iconst (v := 1) hx hb dL_addTeam_13 (by decide) ?_
      have hP9 : va_P D xCl [(h9, .inl (K 3, 1, .inr (.inl (fun _ => 0))))] H := hP.sub [0] rfl
      have hD9 : va_D A [(h9, .inl (K 3, 1, .inr (.inl (fun _ => 0))))] := hD.sub [0] (by decide) rfl
      refine W.widen (k := 1) (n := 6) (Nat.le_of_ble_eq_true rfl) (Nat.le_of_ble_eq_true rfl) ?_
      exact W.iret (v := 1) hx hb hr (fun t ht hW => ⟨⟨1, fun _ => 0, rfl, Or.inr (Or.inl ⟨c_6, c_7, rfl, rfl⟩), by rw [ht]; exact hP9, hD9⟩, hS.F ht⟩) hS.2.2 dL_addTeam_14
  · obtain ⟨c_8, c_9, rfl⟩ := hw_3
    have hP : va_P D xCl [(h9, .inl (K 3, 1, .inr (.inl (fun _ => 0))))] H := hP
    have hD : va_D A [(h9, .inl (K 3, 1, .inr (.inl (fun _ => 0))))] := hD
    refine W.widen (k := 1) (n := 6) (Nat.le_of_ble_eq_true rfl) (Nat.le_of_ble_eq_true rfl) ?_
    refine lv_i2l (v := 0) hx hb dL_addTeam_7 (by decide) ?_
    refine va_last hx hb hK hP hD hS 0 3 rfl rfl (by unfold vp_in; decide) dL_addTeam_8 (fun H locs hP hD hS => ?_)
    have hP : va_P D xCl [(h9, .inl (K 3, 1, .inr (.inl (vp_updL (fun _ => 0) ((0 : Int32).toNatClampNeg) 0))))] H := hP
    have hD : va_D A [(h9, .inl (K 3, 1, .inr (.inl (vp_updL (fun _ => 0) ((0 : Int32).toNatClampNeg) 0))))] := hD
    refine lv_goto (tgt := 18) hx hb dL_addTeam_9 (by decide) ?_
    refine lv_iconst (v := 0) hx hb dL_addTeam_18 (by decide) ?_
    have hP9 : va_P D xCl [(h9, .inl (K 3, 1, .inr (.inl (vp_updL (fun _ => 0) ((0 : Int32).toNatClampNeg) 0))))] H := hP.sub [0] rfl
    have hD9 : va_D A [(h9, .inl (K 3, 1, .inr (.inl (vp_updL (fun _ => 0) ((0 : Int32).toNatClampNeg) 0))))] := hD.sub [0] (by decide) rfl
    refine W.widen (k := 1) (n := 6) (Nat.le_of_ble_eq_true rfl) (Nat.le_of_ble_eq_true rfl) ?_
    exact W.iret (v := 0) hx hb hr (fun t ht hW => ⟨⟨0, (vp_updL (fun _ => 0) ((0 : Int32).toNatClampNeg) 0), rfl, Or.inr (Or.inr ⟨c_8, c_9, rfl, rfl⟩), by rw [ht]; exact hP9, hD9⟩, hS.F ht⟩) hS.2.2 dL_addTeam_19
set_option maxHeartbeats 4000000 in
set_option maxRecDepth 100000 in
theorem c_L_addJudge (l : Launch) (hst : l.stackTraces = false) (D : va_G) (K : Nat → ClassId) (h0 h9 h1 h2 h3 h4 h5 h6 h7 a1 a2 a3 a4 a5 a6 : Nat) (sz : Nat) (p0 p1 : Int32) : Met l yL_addJudge [.codeWith yL_addJudge cL_addJudge 5 (some .int) [(0, 10, 13, 13), (0, 10, 17, 15)]] ({ frames := 7, cells := 1, slots := 6, locals := 104 }) (xPre D K [.ref h0, .int p0, .int p1, .ref h9] [(h0, .inr (0, [.ref h1, .ref h2, .ref h3, .ref h4, .ref h5, .ref h6, .ref h7])), (h1, .inr (1, [.ref a1, .ref a2, .ref a3, .ref a4, .ref a5, .ref a6, .int 0, .int 0])), (a4, .inl (K 0, 8, .inl (fun _ => 0))), (a5, .inl (K 0, 8, .inl (fun _ => 0))), (h9, .inl (K 3, 1, .inr (.inl (fun _ => 0))))] sz) (va_Qi (fun (r : Int32) (u : Nat → Int64) => (p0 < 0 ∧ r = 1 ∧ u = (fun _ => 0)) ∨ (¬ p0 < 0 ∧ 6 ≤ p0 ∧ r = 1 ∧ u = (fun _ => 0)) ∨ (¬ p0 < 0 ∧ ¬ 6 ≤ p0 ∧ p1 < 1 ∧ r = 1 ∧ u = (fun _ => 0)) ∨ (¬ p0 < 0 ∧ ¬ 6 ≤ p0 ∧ ¬ p1 < 1 ∧ ¬ p1 ≤ 9 ∧ r = 1 ∧ u = (fun _ => 0)) ∨ (¬ p0 < 0 ∧ ¬ 6 ≤ p0 ∧ ¬ p1 < 1 ∧ p1 ≤ 9 ∧ r = 0 ∧ u = (vp_updL (fun _ => 0) ((0 : Int32).toNatClampNeg) 0))) (fun u t => xW D (va_A [(h0, .inr (0, [.ref h1, .ref h2, .ref h3, .ref h4, .ref h5, .ref h6, .ref h7])), (h1, .inr (1, [.ref a1, .ref a2, .ref a3, .ref a4, .ref a5, .ref a6, .int 0, .int 0])), (a4, .inl (K 0, 8, .inl (fun _ => 0))), (a5, .inl (K 0, 8, .inl (fun _ => 0))), (h9, .inl (K 3, 1, .inr (.inl (fun _ => 0))))] sz) ((fun (u : Nat → Int64) => [(h9, .inl (K 3, 1, .inr (.inl u)))]) u) t) (va_A [(h0, .inr (0, [.ref h1, .ref h2, .ref h3, .ref h4, .ref h5, .ref h6, .ref h7])), (h1, .inr (1, [.ref a1, .ref a2, .ref a3, .ref a4, .ref a5, .ref a6, .int 0, .int 0])), (a4, .inl (K 0, 8, .inl (fun _ => 0))), (a5, .inl (K 0, 8, .inl (fun _ => 0))), (h9, .inl (K 3, 1, .inr (.inl (fun _ => 0))))] sz)) 1 6 (va_A [(h0, .inr (0, [.ref h1, .ref h2, .ref h3, .ref h4, .ref h5, .ref h6, .ref h7])), (h1, .inr (1, [.ref a1, .ref a2, .ref a3, .ref a4, .ref a5, .ref a6, .int 0, .int 0])), (a4, .inl (K 0, 8, .inl (fun _ => 0))), (a5, .inl (K 0, 8, .inl (fun _ => 0))), (h9, .inl (K 3, 1, .inr (.inl (fun _ => 0))))] sz) := by
  refine va_MetW (cc := cL_addJudge) (maxL := 5) (ret := (some .int)) (by decide) rfl ?_
  intro p e s m args below meth c s₁ B hml hv
  obtain ⟨rfl, hsz, hP, hD0, hE⟩ := hv
  have hx := B.exec
  have hb := B.bytes
  have hr := B.returns
  have hlocks := B.notSynchronized
  have hts := hE.1.ts ([.ref h0, .int p0, .int p1, .ref h9] : List Value).toArray
  have hnt := hE.1.nt ([.ref h0, .int p0, .int p1, .ref h9] : List Value).toArray
  have hK := hE.2.1
  have hown : s.vm.findClass RL = some m.cls := findClass_of_methodNamed B.named
  have htb := vx_table (x := yL_addJudge) B (atoms_spec (ws := [.codeWith yL_addJudge cL_addJudge 5 (some .int) [(0, 10, 13, 13), (0, 10, 17, 15)]]) B.pre _ List.mem_cons_self)
  subst hsz
  have hD := hD0.self (sz := s.heap.size)
  generalize hAe : va_A [(h0, .inr (0, [.ref h1, .ref h2, .ref h3, .ref h4, .ref h5, .ref h6, .ref h7])), (h1, .inr (1, [.ref a1, .ref a2, .ref a3, .ref a4, .ref a5, .ref a6, .int 0, .int 0])), (a4, .inl (K 0, 8, .inl (fun _ => 0))), (a5, .inl (K 0, 8, .inl (fun _ => 0))), (h9, .inl (K 3, 1, .inr (.inl (fun _ => 0))))] s.heap.size = A at hD hE ⊢
  have hA : ∀ q : Nat, s.heap.size ≤ q → A q := fun q h => by rw [← hAe]; exact Or.inr h
  have hl := lv_entry ([.ref h0, .int p0, .int p1, .ref h9]) (n := 5) (Nat.le_of_ble_eq_true rfl)
  rw [lg_entry_eq]
  generalize (lg_sl ([.ref h0, .int p0, .int p1, .ref h9]) ++ List.replicate (5 - (lg_sl ([.ref h0, .int p0, .int p1, .ref h9])).length) Slot.unset).toArray = ls at hl ⊢
  have hl : lv_has ls 5 [(0, .ref h0), (1, .int p0), (2, .int p1), (3, .ref h9)] := hl
  generalize hH : s.heap = H at hP ⊢
  have hS : va_S A s.heap H [] := by rw [← hH]; exact va_S.rf
  refine lv_aload_n hx hb dL_addJudge_0 rfl (lv_at hl 3 rfl) ?_
  refine lv_iconst (v := 0) hx hb dL_addJudge_1 (by decide) ?_
  refine lv_aload_n hx hb dL_addJudge_2 rfl (lv_at hl 0 rfl) ?_
  refine lv_iload_n hx hb dL_addJudge_3 rfl (lv_at hl 1 rfl) ?_
  refine lv_iload_n hx hb dL_addJudge_4 rfl (lv_at hl 2 rfl) ?_
  have hF := va_free (wc := [(h0, .inr (0, [.ref h1, .ref h2, .ref h3, .ref h4, .ref h5, .ref h6, .ref h7])), (h1, .inr (1, [.ref a1, .ref a2, .ref a3, .ref a4, .ref a5, .ref a6, .int 0, .int 0])), (a4, .inl (K 0, 8, .inl (fun _ => 0))), (a5, .inl (K 0, 8, .inl (fun _ => 0)))]) hD hS hA [0, 1, 2, 3] rfl
  refine xkx_i (px := fun E => (p0 < 0 ∧ E = "java/lang/IllegalArgumentException") ∨ (¬ p0 < 0 ∧ 6 ≤ p0 ∧ E = "java/lang/IllegalArgumentException") ∨ (¬ p0 < 0 ∧ ¬ 6 ≤ p0 ∧ p1 < 1 ∧ E = "java/lang/IllegalArgumentException") ∨ (¬ p0 < 0 ∧ ¬ 6 ≤ p0 ∧ ¬ p1 < 1 ∧ ¬ p1 ≤ 9 ∧ E = "java/lang/IllegalArgumentException")) (w1 := fun (_ : Unit) => []) (wc := [(h0, .inr (0, [.ref h1, .ref h2, .ref h3, .ref h4, .ref h5, .ref h6, .ref h7])), (h1, .inr (1, [.ref a1, .ref a2, .ref a3, .ref a4, .ref a5, .ref a6, .int 0, .int 0])), (a4, .inl (K 0, 8, .inl (fun _ => 0))), (a5, .inl (K 0, 8, .inl (fun _ => 0)))]) (wr := [(h9, .inl (K 3, 1, .inr (.inl (fun _ => 0))))]) (vx_runV (As := [.int p0, .int p1]) (rest := [.int 0, .ref h9]) ⟨hx, hb, hml, hown, hts⟩ (c_X8_addJudge l hst D K h0 h1 h2 h3 h4 h5 h6 h7 a1 a2 a3 a4 a5 a6 H.size p0 p1) (cwV 2 hts xg_RL_X8_addJudge_17 rfl rfl rfl (by decide +kernel) ⟨Nat.le_of_ble_eq_true rfl, Nat.le_of_ble_eq_true rfl⟩) ⟨xPre.blind, va_recv hK hP (ci := 0) (q0 := 0) rfl rfl, xPre.call hE hS (hP.sub [0, 1, 2, 3] rfl) (hD.sub [0, 1, 2, 3] (by decide) rfl) hF⟩ rfl rfl hl.1 rfl (lv_room (Nat.le_of_ble_eq_true rfl)) dL_addJudge_5 ⟨Nat.le_of_ble_eq_true rfl, Nat.le_of_ble_eq_true rfl⟩) hP hD hS hF [0, 1, 2, 3] [4] rfl rfl rfl (by decide) (fun E9 ce9 q9 H locs hpx_4 hP hD hS hce hcv hcl => ?_) (fun r_2 u_1 H locs hw_3 hP hD hS => ?_)
  · rcases hpx_4 with ⟨c_5, rfl⟩ | ⟨c_6, c_7, rfl⟩ | ⟨c_8, c_9, c_10, rfl⟩ | ⟨c_11, c_12, c_13, c_14, rfl⟩
    · refine vx_catch (own := RL) (name := "java/lang/IllegalArgumentException") hown (tableOf []) ⟨0, 10, 13, 13⟩ (tableOf [(0, 10, 17, 15)]) (htb.trans rfl) (fun z hz => absurd hz List.not_mem_nil) (by decide) (by decide) (hts _ xw7_4) (va_Nw.use rfl (hE.1.2.2.1 "java/lang/IllegalArgumentException" (by decide +kernel))) hce hcv hcl ?_
      refine lv_astore (lv' := [(4, .ref q9), (0, .ref h0), (1, .int p0), (2, .int p1), (3, .ref h9)]) hx hb dL_addJudge_13 hl (by decide) rfl (fun ls hl => ?_)
      refine lv_iconst (v := 1) hx hb dL_addJudge_15 (by decide) ?_
      have hP9 : va_P D xCl [(h9, .inl (K 3, 1, .inr (.inl (fun _ => 0))))] H := hP.sub [0] rfl
      have hD9 : va_D A [(h9, .inl (K 3, 1, .inr (.inl (fun _ => 0))))] := hD.sub [0] (by decide) rfl
      refine W.widen (k := 1) (n := 6) (Nat.le_of_ble_eq_true rfl) (Nat.le_of_ble_eq_true rfl) ?_
      exact W.iret (v := 1) hx hb hr (fun t ht hW => ⟨⟨1, fun _ => 0, rfl, Or.inl ⟨c_5, rfl, rfl⟩, by rw [ht]; exact hP9, hD9⟩, hS.F ht⟩) hS.2.2 dL_addJudge_16
    · refine vx_catch (own := RL) (name := "java/lang/IllegalArgumentException") hown (tableOf []) ⟨0, 10, 13, 13⟩ (tableOf [(0, 10, 17, 15)]) (htb.trans rfl) (fun z hz => absurd hz List.not_mem_nil) (by decide) (by decide) (hts _ xw7_4) (va_Nw.use rfl (hE.1.2.2.1 "java/lang/IllegalArgumentException" (by decide +kernel))) hce hcv hcl ?_
      refine lv_astore (lv' := [(4, .ref q9), (0, .ref h0), (1, .int p0), (2, .int p1), (3, .ref h9)]) hx hb dL_addJudge_13 hl (by decide) rfl (fun ls hl => ?_)
      refine lv_iconst (v := 1) hx hb dL_addJudge_15 (by decide) ?_
      have hP9 : va_P D xCl [(h9, .inl (K 3, 1, .inr (.inl (fun _ => 0))))] H := hP.sub [0] rfl
      have hD9 : va_D A [(h9, .inl (K 3, 1, .inr (.inl (fun _ => 0))))] := hD.sub [0] (by decide) rfl
      refine W.widen (k := 1) (n := 6) (Nat.le_of_ble_eq_true rfl) (Nat.le_of_ble_eq_true rfl) ?_
      exact W.iret (v := 1) hx hb hr (fun t ht hW => ⟨⟨1, fun _ => 0, rfl, Or.inr (Or.inl ⟨c_6, c_7, rfl, rfl⟩), by rw [ht]; exact hP9, hD9⟩, hS.F ht⟩) hS.2.2 dL_addJudge_16
    · refine vx_catch (own := RL) (name := "java/lang/IllegalArgumentException") hown (tableOf []) ⟨0, 10, 13, 13⟩ (tableOf [(0, 10, 17, 15)]) (htb.trans rfl) (fun z hz => absurd hz List.not_mem_nil) (by decide) (by decide) (hts _ xw7_4) (va_Nw.use rfl (hE.1.2.2.1 "java/lang/IllegalArgumentException" (by decide +kernel))) hce hcv hcl ?_
      refine lv_astore (lv' := [(4, .ref q9), (0, .ref h0), (1, .int p0), (2, .int p1), (3, .ref h9)]) hx hb dL_addJudge_13 hl (by decide) rfl (fun ls hl => ?_)
      refine lv_iconst (v := 1) hx hb dL_addJudge_15 (by decide) ?_
      have hP9 : va_P D xCl [(h9, .inl (K 3, 1, .inr (.inl (fun _ => 0))))] H := hP.sub [0] rfl
      have hD9 : va_D A [(h9, .inl (K 3, 1, .inr (.inl (fun _ => 0))))] := hD.sub [0] (by decide) rfl
      refine W.widen (k := 1) (n := 6) (Nat.le_of_ble_eq_true rfl) (Nat.le_of_ble_eq_true rfl) ?_
      exact W.iret (v := 1) hx hb hr (fun t ht hW => ⟨⟨1, fun _ => 0, rfl, Or.inr (Or.inr (Or.inl ⟨c_8, c_9, c_10, rfl, rfl⟩)), by rw [ht]; exact hP9, hD9⟩, hS.F ht⟩) hS.2.2 dL_addJudge_16
    · refine vx_catch (own := RL) (name := "java/lang/IllegalArgumentException") hown (tableOf []) ⟨0, 10, 13, 13⟩ (tableOf [(0, 10, 17, 15)]) (htb.trans rfl) (fun z hz => absurd hz List.not_mem_nil) (by decide) (by decide) (hts _ xw7_4) (va_Nw.use rfl (hE.1.2.2.1 "java/lang/IllegalArgumentException" (by decide +kernel))) hce hcv hcl ?_
      refine lv_astore (lv' := [(4, .ref q9), (0, .ref h0), (1, .int p0), (2, .int p1), (3, .ref h9)]) hx hb dL_addJudge_13 hl (by decide) rfl (fun ls hl => ?_)
      refine lv_iconst (v := 1) hx hb dL_addJudge_15 (by decide) ?_
      have hP9 : va_P D xCl [(h9, .inl (K 3, 1, .inr (.inl (fun _ => 0))))] H := hP.sub [0] rfl
      have hD9 : va_D A [(h9, .inl (K 3, 1, .inr (.inl (fun _ => 0))))] := hD.sub [0] (by decide) rfl
      refine W.widen (k := 1) (n := 6) (Nat.le_of_ble_eq_true rfl) (Nat.le_of_ble_eq_true rfl) ?_
      exact W.iret (v := 1) hx hb hr (fun t ht hW => ⟨⟨1, fun _ => 0, rfl, Or.inr (Or.inr (Or.inr (Or.inl ⟨c_11, c_12, c_13, c_14, rfl, rfl⟩))), by rw [ht]; exact hP9, hD9⟩, hS.F ht⟩) hS.2.2 dL_addJudge_16
  · obtain ⟨c_15, c_16, c_17, c_18, rfl⟩ := hw_3
    have hP : va_P D xCl [(h9, .inl (K 3, 1, .inr (.inl (fun _ => 0))))] H := hP
    have hD : va_D A [(h9, .inl (K 3, 1, .inr (.inl (fun _ => 0))))] := hD
    refine W.widen (k := 1) (n := 6) (Nat.le_of_ble_eq_true rfl) (Nat.le_of_ble_eq_true rfl) ?_
    refine lv_i2l (v := 0) hx hb dL_addJudge_8 (by decide) ?_
    refine va_last hx hb hK hP hD hS 0 3 rfl rfl (by unfold vp_in; decide) dL_addJudge_9 (fun H locs hP hD hS => ?_)
    have hP : va_P D xCl [(h9, .inl (K 3, 1, .inr (.inl (vp_updL (fun _ => 0) ((0 : Int32).toNatClampNeg) 0))))] H := hP
    have hD : va_D A [(h9, .inl (K 3, 1, .inr (.inl (vp_updL (fun _ => 0) ((0 : Int32).toNatClampNeg) 0))))] := hD
    refine lv_goto (tgt := 21) hx hb dL_addJudge_10 (by decide) ?_
    refine lv_iconst (v := 0) hx hb dL_addJudge_21 (by decide) ?_
    have hP9 : va_P D xCl [(h9, .inl (K 3, 1, .inr (.inl (vp_updL (fun _ => 0) ((0 : Int32).toNatClampNeg) 0))))] H := hP.sub [0] rfl
    have hD9 : va_D A [(h9, .inl (K 3, 1, .inr (.inl (vp_updL (fun _ => 0) ((0 : Int32).toNatClampNeg) 0))))] := hD.sub [0] (by decide) rfl
    refine W.widen (k := 1) (n := 6) (Nat.le_of_ble_eq_true rfl) (Nat.le_of_ble_eq_true rfl) ?_
    exact W.iret (v := 0) hx hb hr (fun t ht hW => ⟨⟨0, (vp_updL (fun _ => 0) ((0 : Int32).toNatClampNeg) 0), rfl, Or.inr (Or.inr (Or.inr (Or.inr ⟨c_15, c_16, c_17, c_18, rfl, rfl⟩))), by rw [ht]; exact hP9, hD9⟩, hS.F ht⟩) hS.2.2 dL_addJudge_22
set_option maxHeartbeats 4000000 in
set_option maxRecDepth 100000 in
theorem c_L_addConflict (l : Launch) (hst : l.stackTraces = false) (D : va_G) (K : Nat → ClassId) (h0 h9 h1 h2 h3 h4 h5 h6 h7 a1 a2 a3 a4 a5 a6 : Nat) (sz : Nat) (p0 p1 : Int32) : Met l yL_addConflict [.codeWith yL_addConflict cL_addConflict 5 (some .int) [(0, 10, 13, 24), (0, 10, 17, 15)]] ({ frames := 8, cells := 1, slots := 6, locals := 125 }) (xPre D K [.ref h0, .int p0, .int p1, .ref h9] [(h0, .inr (0, [.ref h1, .ref h2, .ref h3, .ref h4, .ref h5, .ref h6, .ref h7])), (h1, .inr (1, [.ref a1, .ref a2, .ref a3, .ref a4, .ref a5, .ref a6, .int 0, .int 0])), (h9, .inl (K 3, 1, .inr (.inl (fun _ => 0))))] sz) (va_Qi (fun (r : Int32) (u : Unit) => r = 1) (fun u t => xW D (va_A [(h0, .inr (0, [.ref h1, .ref h2, .ref h3, .ref h4, .ref h5, .ref h6, .ref h7])), (h1, .inr (1, [.ref a1, .ref a2, .ref a3, .ref a4, .ref a5, .ref a6, .int 0, .int 0])), (h9, .inl (K 3, 1, .inr (.inl (fun _ => 0))))] sz) ((fun (_ : Unit) => [(h9, .inl (K 3, 1, .inr (.inl (fun _ => 0))))]) u) t) (va_A [(h0, .inr (0, [.ref h1, .ref h2, .ref h3, .ref h4, .ref h5, .ref h6, .ref h7])), (h1, .inr (1, [.ref a1, .ref a2, .ref a3, .ref a4, .ref a5, .ref a6, .int 0, .int 0])), (h9, .inl (K 3, 1, .inr (.inl (fun _ => 0))))] sz)) 1 6 (va_A [(h0, .inr (0, [.ref h1, .ref h2, .ref h3, .ref h4, .ref h5, .ref h6, .ref h7])), (h1, .inr (1, [.ref a1, .ref a2, .ref a3, .ref a4, .ref a5, .ref a6, .int 0, .int 0])), (h9, .inl (K 3, 1, .inr (.inl (fun _ => 0))))] sz) := by
  refine va_MetW (cc := cL_addConflict) (maxL := 5) (ret := (some .int)) (by decide) rfl ?_
  intro p e s m args below meth c s₁ B hml hv
  obtain ⟨rfl, hsz, hP, hD0, hE⟩ := hv
  have hx := B.exec
  have hb := B.bytes
  have hr := B.returns
  have hlocks := B.notSynchronized
  have hts := hE.1.ts ([.ref h0, .int p0, .int p1, .ref h9] : List Value).toArray
  have hnt := hE.1.nt ([.ref h0, .int p0, .int p1, .ref h9] : List Value).toArray
  have hK := hE.2.1
  have hown : s.vm.findClass RL = some m.cls := findClass_of_methodNamed B.named
  have htb := vx_table (x := yL_addConflict) B (atoms_spec (ws := [.codeWith yL_addConflict cL_addConflict 5 (some .int) [(0, 10, 13, 24), (0, 10, 17, 15)]]) B.pre _ List.mem_cons_self)
  subst hsz
  have hD := hD0.self (sz := s.heap.size)
  generalize hAe : va_A [(h0, .inr (0, [.ref h1, .ref h2, .ref h3, .ref h4, .ref h5, .ref h6, .ref h7])), (h1, .inr (1, [.ref a1, .ref a2, .ref a3, .ref a4, .ref a5, .ref a6, .int 0, .int 0])), (h9, .inl (K 3, 1, .inr (.inl (fun _ => 0))))] s.heap.size = A at hD hE ⊢
  have hA : ∀ q : Nat, s.heap.size ≤ q → A q := fun q h => by rw [← hAe]; exact Or.inr h
  have hl := lv_entry ([.ref h0, .int p0, .int p1, .ref h9]) (n := 5) (Nat.le_of_ble_eq_true rfl)
  rw [lg_entry_eq]
  generalize (lg_sl ([.ref h0, .int p0, .int p1, .ref h9]) ++ List.replicate (5 - (lg_sl ([.ref h0, .int p0, .int p1, .ref h9])).length) Slot.unset).toArray = ls at hl ⊢
  have hl : lv_has ls 5 [(0, .ref h0), (1, .int p0), (2, .int p1), (3, .ref h9)] := hl
  generalize hH : s.heap = H at hP ⊢
  have hS : va_S A s.heap H [] := by rw [← hH]; exact va_S.rf
  refine lv_aload_n hx hb dL_addConflict_0 rfl (lv_at hl 3 rfl) ?_
  refine lv_iconst (v := 0) hx hb dL_addConflict_1 (by decide) ?_
  refine lv_aload_n hx hb dL_addConflict_2 rfl (lv_at hl 0 rfl) ?_
  refine lv_iload_n hx hb dL_addConflict_3 rfl (lv_at hl 1 rfl) ?_
  refine lv_iload_n hx hb dL_addConflict_4 rfl (lv_at hl 2 rfl) ?_
  have hF := va_free (wc := [(h0, .inr (0, [.ref h1, .ref h2, .ref h3, .ref h4, .ref h5, .ref h6, .ref h7])), (h1, .inr (1, [.ref a1, .ref a2, .ref a3, .ref a4, .ref a5, .ref a6, .int 0, .int 0]))]) hD hS hA [0, 1] rfl
  refine xkx_i (px := fun E => E = "java/util/NoSuchElementException") (w1 := fun (_ : Unit) => []) (wc := [(h0, .inr (0, [.ref h1, .ref h2, .ref h3, .ref h4, .ref h5, .ref h6, .ref h7])), (h1, .inr (1, [.ref a1, .ref a2, .ref a3, .ref a4, .ref a5, .ref a6, .int 0, .int 0]))]) (wr := [(h9, .inl (K 3, 1, .inr (.inl (fun _ => 0))))]) (vx_runV (As := [.int p0, .int p1]) (rest := [.int 0, .ref h9]) ⟨hx, hb, hml, hown, hts⟩ (c_X8_addConflict l hst D K h0 h1 h2 h3 h4 h5 h6 h7 a1 a2 a3 a4 a5 a6 H.size p0 p1) (cwV 2 hts xg_RL_X8_addConflict_21 rfl rfl rfl (by decide +kernel) ⟨Nat.le_of_ble_eq_true rfl, Nat.le_of_ble_eq_true rfl⟩) ⟨xPre.blind, va_recv hK hP (ci := 0) (q0 := 0) rfl rfl, xPre.call hE hS (hP.sub [0, 1] rfl) (hD.sub [0, 1] (by decide) rfl) hF⟩ rfl rfl hl.1 rfl (lv_room (Nat.le_of_ble_eq_true rfl)) dL_addConflict_5 ⟨Nat.le_of_ble_eq_true rfl, Nat.le_of_ble_eq_true rfl⟩) hP hD hS hF [0, 1] [2] rfl rfl rfl (by decide) (fun E9 ce9 q9 H locs hpx_4 hP hD hS hce hcv hcl => ?_) (fun r_2 u_1 H locs hw_3 hP hD hS => ?_)
  · obtain rfl := hpx_4
    refine vx_catch (own := RL) (name := "java/util/NoSuchElementException") hown (tableOf []) ⟨0, 10, 13, 24⟩ (tableOf [(0, 10, 17, 15)]) (htb.trans rfl) (fun z hz => absurd hz List.not_mem_nil) (by decide) (by decide) (hts _ xw9_7) (va_Nw.use rfl (hE.1.2.2.1 "java/util/NoSuchElementException" (by decide +kernel))) hce hcv hcl ?_
    refine lv_astore (lv' := [(4, .ref q9), (0, .ref h0), (1, .int p0), (2, .int p1), (3, .ref h9)]) hx hb dL_addConflict_13 hl (by decide) rfl (fun ls hl => ?_)
    refine lv_iconst (v := 1) hx hb dL_addConflict_15 (by decide) ?_
    have hP9 : va_P D xCl [(h9, .inl (K 3, 1, .inr (.inl (fun _ => 0))))] H := hP.sub [0] rfl
    have hD9 : va_D A [(h9, .inl (K 3, 1, .inr (.inl (fun _ => 0))))] := hD.sub [0] (by decide) rfl
    refine W.widen (k := 1) (n := 6) (Nat.le_of_ble_eq_true rfl) (Nat.le_of_ble_eq_true rfl) ?_
    exact W.iret (v := 1) hx hb hr (fun t ht hW => ⟨⟨1, (), rfl, rfl, by rw [ht]; exact hP9, hD9⟩, hS.F ht⟩) hS.2.2 dL_addConflict_16
  · exact hw_3.elim
set_option maxHeartbeats 4000000 in
set_option maxRecDepth 100000 in
theorem c_L_setPresent (l : Launch) (hst : l.stackTraces = false) (D : va_G) (K : Nat → ClassId) (h0 h9 h1 h2 h3 h4 h5 h6 h7 a1 a2 a3 a4 a5 a6 : Nat) (sz : Nat) (p0 p1 : Int32) : Met l yL_setPresent [.codeWith yL_setPresent cL_setPresent 5 (some .int) [(0, 17, 20, 24)]] ({ frames := 8, cells := 1, slots := 6, locals := 126 }) (xPre D K [.ref h0, .int p0, .int p1, .ref h9] [(h0, .inr (0, [.ref h1, .ref h2, .ref h3, .ref h4, .ref h5, .ref h6, .ref h7])), (h1, .inr (1, [.ref a1, .ref a2, .ref a3, .ref a4, .ref a5, .ref a6, .int 0, .int 0])), (h9, .inl (K 3, 1, .inr (.inl (fun _ => 0))))] sz) (va_Qi (fun (r : Int32) (u : Unit) => r = 1) (fun u t => xW D (va_A [(h0, .inr (0, [.ref h1, .ref h2, .ref h3, .ref h4, .ref h5, .ref h6, .ref h7])), (h1, .inr (1, [.ref a1, .ref a2, .ref a3, .ref a4, .ref a5, .ref a6, .int 0, .int 0])), (h9, .inl (K 3, 1, .inr (.inl (fun _ => 0))))] sz) ((fun (_ : Unit) => [(h9, .inl (K 3, 1, .inr (.inl (fun _ => 0))))]) u) t) (va_A [(h0, .inr (0, [.ref h1, .ref h2, .ref h3, .ref h4, .ref h5, .ref h6, .ref h7])), (h1, .inr (1, [.ref a1, .ref a2, .ref a3, .ref a4, .ref a5, .ref a6, .int 0, .int 0])), (h9, .inl (K 3, 1, .inr (.inl (fun _ => 0))))] sz)) 1 6 (va_A [(h0, .inr (0, [.ref h1, .ref h2, .ref h3, .ref h4, .ref h5, .ref h6, .ref h7])), (h1, .inr (1, [.ref a1, .ref a2, .ref a3, .ref a4, .ref a5, .ref a6, .int 0, .int 0])), (h9, .inl (K 3, 1, .inr (.inl (fun _ => 0))))] sz) := by
  refine va_MetW (cc := cL_setPresent) (maxL := 5) (ret := (some .int)) (by decide) rfl ?_
  intro p e s m args below meth c s₁ B hml hv
  obtain ⟨rfl, hsz, hP, hD0, hE⟩ := hv
  have hx := B.exec
  have hb := B.bytes
  have hr := B.returns
  have hlocks := B.notSynchronized
  have hts := hE.1.ts ([.ref h0, .int p0, .int p1, .ref h9] : List Value).toArray
  have hnt := hE.1.nt ([.ref h0, .int p0, .int p1, .ref h9] : List Value).toArray
  have hK := hE.2.1
  have hown : s.vm.findClass RL = some m.cls := findClass_of_methodNamed B.named
  have htb := vx_table (x := yL_setPresent) B (atoms_spec (ws := [.codeWith yL_setPresent cL_setPresent 5 (some .int) [(0, 17, 20, 24)]]) B.pre _ List.mem_cons_self)
  subst hsz
  have hD := hD0.self (sz := s.heap.size)
  generalize hAe : va_A [(h0, .inr (0, [.ref h1, .ref h2, .ref h3, .ref h4, .ref h5, .ref h6, .ref h7])), (h1, .inr (1, [.ref a1, .ref a2, .ref a3, .ref a4, .ref a5, .ref a6, .int 0, .int 0])), (h9, .inl (K 3, 1, .inr (.inl (fun _ => 0))))] s.heap.size = A at hD hE ⊢
  have hA : ∀ q : Nat, s.heap.size ≤ q → A q := fun q h => by rw [← hAe]; exact Or.inr h
  have hl := lv_entry ([.ref h0, .int p0, .int p1, .ref h9]) (n := 5) (Nat.le_of_ble_eq_true rfl)
  rw [lg_entry_eq]
  generalize (lg_sl ([.ref h0, .int p0, .int p1, .ref h9]) ++ List.replicate (5 - (lg_sl ([.ref h0, .int p0, .int p1, .ref h9])).length) Slot.unset).toArray = ls at hl ⊢
  have hl : lv_has ls 5 [(0, .ref h0), (1, .int p0), (2, .int p1), (3, .ref h9)] := hl
  generalize hH : s.heap = H at hP ⊢
  have hS : va_S A s.heap H [] := by rw [← hH]; exact va_S.rf
  refine lv_aload_n hx hb dL_setPresent_0 rfl (lv_at hl 3 rfl) ?_
  refine lv_iconst (v := 0) hx hb dL_setPresent_1 (by decide) ?_
  refine lv_aload_n hx hb dL_setPresent_2 rfl (lv_at hl 0 rfl) ?_
  refine lv_iload_n hx hb dL_setPresent_3 rfl (lv_at hl 1 rfl) ?_
  refine lv_iload_n hx hb dL_setPresent_4 rfl (lv_at hl 2 rfl) ?_
  have hF := va_free (wc := [(h0, .inr (0, [.ref h1, .ref h2, .ref h3, .ref h4, .ref h5, .ref h6, .ref h7])), (h1, .inr (1, [.ref a1, .ref a2, .ref a3, .ref a4, .ref a5, .ref a6, .int 0, .int 0]))]) hD hS hA [0, 1] rfl
  refine xkx_i (px := fun E => E = "java/util/NoSuchElementException") (w1 := fun (_ : Unit) => []) (wc := [(h0, .inr (0, [.ref h1, .ref h2, .ref h3, .ref h4, .ref h5, .ref h6, .ref h7])), (h1, .inr (1, [.ref a1, .ref a2, .ref a3, .ref a4, .ref a5, .ref a6, .int 0, .int 0]))]) (wr := [(h9, .inl (K 3, 1, .inr (.inl (fun _ => 0))))]) (vx_runV (As := [.int p0, .int p1]) (rest := [.int 0, .ref h9]) ⟨hx, hb, hml, hown, hts⟩ (c_X8_setPresent l hst D K h0 h1 h2 h3 h4 h5 h6 h7 a1 a2 a3 a4 a5 a6 H.size p0 p1) (cwV 2 hts xg_RL_X8_setPresent_26 rfl rfl rfl (by decide +kernel) ⟨Nat.le_of_ble_eq_true rfl, Nat.le_of_ble_eq_true rfl⟩) ⟨xPre.blind, va_recv hK hP (ci := 0) (q0 := 0) rfl rfl, xPre.call hE hS (hP.sub [0, 1] rfl) (hD.sub [0, 1] (by decide) rfl) hF⟩ rfl rfl hl.1 rfl (lv_room (Nat.le_of_ble_eq_true rfl)) dL_setPresent_5 ⟨Nat.le_of_ble_eq_true rfl, Nat.le_of_ble_eq_true rfl⟩) hP hD hS hF [0, 1] [2] rfl rfl rfl (by decide) (fun E9 ce9 q9 H locs hpx_4 hP hD hS hce hcv hcl => ?_) (fun r_2 u_1 H locs hw_3 hP hD hS => ?_)
  · obtain rfl := hpx_4
    refine vx_catch (own := RL) (name := "java/util/NoSuchElementException") hown (tableOf []) ⟨0, 17, 20, 24⟩ (tableOf []) (htb.trans rfl) (fun z hz => absurd hz List.not_mem_nil) (by decide) (by decide) (hts _ xw9_7) (va_Nw.use rfl (hE.1.2.2.1 "java/util/NoSuchElementException" (by decide +kernel))) hce hcv hcl ?_
    refine lv_astore (lv' := [(4, .ref q9), (0, .ref h0), (1, .int p0), (2, .int p1), (3, .ref h9)]) hx hb dL_setPresent_20 hl (by decide) rfl (fun ls hl => ?_)
    refine lv_iconst (v := 1) hx hb dL_setPresent_22 (by decide) ?_
    have hP9 : va_P D xCl [(h9, .inl (K 3, 1, .inr (.inl (fun _ => 0))))] H := hP.sub [0] rfl
    have hD9 : va_D A [(h9, .inl (K 3, 1, .inr (.inl (fun _ => 0))))] := hD.sub [0] (by decide) rfl
    refine W.widen (k := 1) (n := 6) (Nat.le_of_ble_eq_true rfl) (Nat.le_of_ble_eq_true rfl) ?_
    exact W.iret (v := 1) hx hb hr (fun t ht hW => ⟨⟨1, (), rfl, rfl, by rw [ht]; exact hP9, hD9⟩, hS.F ht⟩) hS.2.2 dL_setPresent_23
  · exact hw_3.elim
set_option maxHeartbeats 4000000 in
set_option maxRecDepth 100000 in
theorem c_L_setIron (l : Launch) (hst : l.stackTraces = false) (D : va_G) (K : Nat → ClassId) (h0 h9 h1 h2 h3 h4 h5 h6 h7 a1 a2 a3 a4 a5 a6 : Nat) (sz : Nat) (p0 p1 : Int32) : Met l yL_setIron [.codeWith yL_setIron cL_setIron 5 (some .int) [(0, 10, 13, 24), (0, 10, 17, 13)]] ({ frames := 8, cells := 1, slots := 6, locals := 126 }) (xPre D K [.ref h0, .int p0, .int p1, .ref h9] [(h0, .inr (0, [.ref h1, .ref h2, .ref h3, .ref h4, .ref h5, .ref h6, .ref h7])), (h1, .inr (1, [.ref a1, .ref a2, .ref a3, .ref a4, .ref a5, .ref a6, .int 0, .int 0])), (h9, .inl (K 3, 1, .inr (.inl (fun _ => 0))))] sz) (va_Qi (fun (r : Int32) (u : Unit) => r = 1) (fun u t => xW D (va_A [(h0, .inr (0, [.ref h1, .ref h2, .ref h3, .ref h4, .ref h5, .ref h6, .ref h7])), (h1, .inr (1, [.ref a1, .ref a2, .ref a3, .ref a4, .ref a5, .ref a6, .int 0, .int 0])), (h9, .inl (K 3, 1, .inr (.inl (fun _ => 0))))] sz) ((fun (_ : Unit) => [(h9, .inl (K 3, 1, .inr (.inl (fun _ => 0))))]) u) t) (va_A [(h0, .inr (0, [.ref h1, .ref h2, .ref h3, .ref h4, .ref h5, .ref h6, .ref h7])), (h1, .inr (1, [.ref a1, .ref a2, .ref a3, .ref a4, .ref a5, .ref a6, .int 0, .int 0])), (h9, .inl (K 3, 1, .inr (.inl (fun _ => 0))))] sz)) 1 6 (va_A [(h0, .inr (0, [.ref h1, .ref h2, .ref h3, .ref h4, .ref h5, .ref h6, .ref h7])), (h1, .inr (1, [.ref a1, .ref a2, .ref a3, .ref a4, .ref a5, .ref a6, .int 0, .int 0])), (h9, .inl (K 3, 1, .inr (.inl (fun _ => 0))))] sz) := by
  refine va_MetW (cc := cL_setIron) (maxL := 5) (ret := (some .int)) (by decide) rfl ?_
  intro p e s m args below meth c s₁ B hml hv
  obtain ⟨rfl, hsz, hP, hD0, hE⟩ := hv
  have hx := B.exec
  have hb := B.bytes
  have hr := B.returns
  have hlocks := B.notSynchronized
  have hts := hE.1.ts ([.ref h0, .int p0, .int p1, .ref h9] : List Value).toArray
  have hnt := hE.1.nt ([.ref h0, .int p0, .int p1, .ref h9] : List Value).toArray
  have hK := hE.2.1
  have hown : s.vm.findClass RL = some m.cls := findClass_of_methodNamed B.named
  have htb := vx_table (x := yL_setIron) B (atoms_spec (ws := [.codeWith yL_setIron cL_setIron 5 (some .int) [(0, 10, 13, 24), (0, 10, 17, 13)]]) B.pre _ List.mem_cons_self)
  subst hsz
  have hD := hD0.self (sz := s.heap.size)
  generalize hAe : va_A [(h0, .inr (0, [.ref h1, .ref h2, .ref h3, .ref h4, .ref h5, .ref h6, .ref h7])), (h1, .inr (1, [.ref a1, .ref a2, .ref a3, .ref a4, .ref a5, .ref a6, .int 0, .int 0])), (h9, .inl (K 3, 1, .inr (.inl (fun _ => 0))))] s.heap.size = A at hD hE ⊢
  have hA : ∀ q : Nat, s.heap.size ≤ q → A q := fun q h => by rw [← hAe]; exact Or.inr h
  have hl := lv_entry ([.ref h0, .int p0, .int p1, .ref h9]) (n := 5) (Nat.le_of_ble_eq_true rfl)
  rw [lg_entry_eq]
  generalize (lg_sl ([.ref h0, .int p0, .int p1, .ref h9]) ++ List.replicate (5 - (lg_sl ([.ref h0, .int p0, .int p1, .ref h9])).length) Slot.unset).toArray = ls at hl ⊢
  have hl : lv_has ls 5 [(0, .ref h0), (1, .int p0), (2, .int p1), (3, .ref h9)] := hl
  generalize hH : s.heap = H at hP ⊢
  have hS : va_S A s.heap H [] := by rw [← hH]; exact va_S.rf
  refine lv_aload_n hx hb dL_setIron_0 rfl (lv_at hl 3 rfl) ?_
  refine lv_iconst (v := 0) hx hb dL_setIron_1 (by decide) ?_
  refine lv_aload_n hx hb dL_setIron_2 rfl (lv_at hl 0 rfl) ?_
  refine lv_iload_n hx hb dL_setIron_3 rfl (lv_at hl 1 rfl) ?_
  refine lv_iload_n hx hb dL_setIron_4 rfl (lv_at hl 2 rfl) ?_
  have hF := va_free (wc := [(h0, .inr (0, [.ref h1, .ref h2, .ref h3, .ref h4, .ref h5, .ref h6, .ref h7])), (h1, .inr (1, [.ref a1, .ref a2, .ref a3, .ref a4, .ref a5, .ref a6, .int 0, .int 0]))]) hD hS hA [0, 1] rfl
  refine xkx_i (px := fun E => E = "java/util/NoSuchElementException") (w1 := fun (_ : Unit) => []) (wc := [(h0, .inr (0, [.ref h1, .ref h2, .ref h3, .ref h4, .ref h5, .ref h6, .ref h7])), (h1, .inr (1, [.ref a1, .ref a2, .ref a3, .ref a4, .ref a5, .ref a6, .int 0, .int 0]))]) (wr := [(h9, .inl (K 3, 1, .inr (.inl (fun _ => 0))))]) (vx_runV (As := [.int p0, .int p1]) (rest := [.int 0, .ref h9]) ⟨hx, hb, hml, hown, hts⟩ (c_X8_setIron l hst D K h0 h1 h2 h3 h4 h5 h6 h7 a1 a2 a3 a4 a5 a6 H.size p0 p1) (cwV 2 hts xg_RL_X8_setIron_30 rfl rfl rfl (by decide +kernel) ⟨Nat.le_of_ble_eq_true rfl, Nat.le_of_ble_eq_true rfl⟩) ⟨xPre.blind, va_recv hK hP (ci := 0) (q0 := 0) rfl rfl, xPre.call hE hS (hP.sub [0, 1] rfl) (hD.sub [0, 1] (by decide) rfl) hF⟩ rfl rfl hl.1 rfl (lv_room (Nat.le_of_ble_eq_true rfl)) dL_setIron_5 ⟨Nat.le_of_ble_eq_true rfl, Nat.le_of_ble_eq_true rfl⟩) hP hD hS hF [0, 1] [2] rfl rfl rfl (by decide) (fun E9 ce9 q9 H locs hpx_4 hP hD hS hce hcv hcl => ?_) (fun r_2 u_1 H locs hw_3 hP hD hS => ?_)
  · obtain rfl := hpx_4
    refine vx_catch (own := RL) (name := "java/util/NoSuchElementException") hown (tableOf []) ⟨0, 10, 13, 24⟩ (tableOf [(0, 10, 17, 13)]) (htb.trans rfl) (fun z hz => absurd hz List.not_mem_nil) (by decide) (by decide) (hts _ xw9_7) (va_Nw.use rfl (hE.1.2.2.1 "java/util/NoSuchElementException" (by decide +kernel))) hce hcv hcl ?_
    refine lv_astore (lv' := [(4, .ref q9), (0, .ref h0), (1, .int p0), (2, .int p1), (3, .ref h9)]) hx hb dL_setIron_13 hl (by decide) rfl (fun ls hl => ?_)
    refine lv_iconst (v := 1) hx hb dL_setIron_15 (by decide) ?_
    have hP9 : va_P D xCl [(h9, .inl (K 3, 1, .inr (.inl (fun _ => 0))))] H := hP.sub [0] rfl
    have hD9 : va_D A [(h9, .inl (K 3, 1, .inr (.inl (fun _ => 0))))] := hD.sub [0] (by decide) rfl
    refine W.widen (k := 1) (n := 6) (Nat.le_of_ble_eq_true rfl) (Nat.le_of_ble_eq_true rfl) ?_
    exact W.iret (v := 1) hx hb hr (fun t ht hW => ⟨⟨1, (), rfl, rfl, by rw [ht]; exact hP9, hD9⟩, hS.F ht⟩) hS.2.2 dL_setIron_16
  · exact hw_3.elim
set_option maxHeartbeats 4000000 in
set_option maxRecDepth 100000 in
theorem c_L_draw (l : Launch) (hst : l.stackTraces = false) (D : va_G) (K : Nat → ClassId) (h0 h9 h1 h2 h3 h4 h5 h6 h7 a1 a2 a3 a4 a5 a6 c1 : Nat) (sz : Nat) : Met l yL_draw [.codeWith yL_draw cL_draw 3 (some .int) [(0, 8, 11, 15), (0, 8, 14, 37)]] ({ frames := 7, cells := 1, slots := 6, locals := 104 }) (xPre D K [.ref h0, .ref h9] [(h0, .inr (0, [.ref h1, .ref h2, .ref h3, .ref h4, .ref h5, .ref h6, .ref h7])), (h1, .inr (1, [.ref a1, .ref a2, .ref a3, .ref a4, .ref a5, .ref a6, .int 0, .int 0])), (h3, .inr (3, [.ref h1, .ref c1, .int 0])), (h9, .inl (K 3, 1, .inr (.inl (fun _ => 0))))] sz) (va_Qi (fun (r : Int32) (u : Unit) => r = 1) (fun u t => xW D (va_A [(h0, .inr (0, [.ref h1, .ref h2, .ref h3, .ref h4, .ref h5, .ref h6, .ref h7])), (h1, .inr (1, [.ref a1, .ref a2, .ref a3, .ref a4, .ref a5, .ref a6, .int 0, .int 0])), (h3, .inr (3, [.ref h1, .ref c1, .int 0])), (h9, .inl (K 3, 1, .inr (.inl (fun _ => 0))))] sz) ((fun (_ : Unit) => [(h9, .inl (K 3, 1, .inr (.inl (fun _ => 0))))]) u) t) (va_A [(h0, .inr (0, [.ref h1, .ref h2, .ref h3, .ref h4, .ref h5, .ref h6, .ref h7])), (h1, .inr (1, [.ref a1, .ref a2, .ref a3, .ref a4, .ref a5, .ref a6, .int 0, .int 0])), (h3, .inr (3, [.ref h1, .ref c1, .int 0])), (h9, .inl (K 3, 1, .inr (.inl (fun _ => 0))))] sz)) 1 6 (va_A [(h0, .inr (0, [.ref h1, .ref h2, .ref h3, .ref h4, .ref h5, .ref h6, .ref h7])), (h1, .inr (1, [.ref a1, .ref a2, .ref a3, .ref a4, .ref a5, .ref a6, .int 0, .int 0])), (h3, .inr (3, [.ref h1, .ref c1, .int 0])), (h9, .inl (K 3, 1, .inr (.inl (fun _ => 0))))] sz) := by
  refine va_MetW (cc := cL_draw) (maxL := 3) (ret := (some .int)) (by decide) rfl ?_
  intro p e s m args below meth c s₁ B hml hv
  obtain ⟨rfl, hsz, hP, hD0, hE⟩ := hv
  have hx := B.exec
  have hb := B.bytes
  have hr := B.returns
  have hlocks := B.notSynchronized
  have hts := hE.1.ts ([.ref h0, .ref h9] : List Value).toArray
  have hnt := hE.1.nt ([.ref h0, .ref h9] : List Value).toArray
  have hK := hE.2.1
  have hown : s.vm.findClass RL = some m.cls := findClass_of_methodNamed B.named
  have htb := vx_table (x := yL_draw) B (atoms_spec (ws := [.codeWith yL_draw cL_draw 3 (some .int) [(0, 8, 11, 15), (0, 8, 14, 37)]]) B.pre _ List.mem_cons_self)
  subst hsz
  have hD := hD0.self (sz := s.heap.size)
  generalize hAe : va_A [(h0, .inr (0, [.ref h1, .ref h2, .ref h3, .ref h4, .ref h5, .ref h6, .ref h7])), (h1, .inr (1, [.ref a1, .ref a2, .ref a3, .ref a4, .ref a5, .ref a6, .int 0, .int 0])), (h3, .inr (3, [.ref h1, .ref c1, .int 0])), (h9, .inl (K 3, 1, .inr (.inl (fun _ => 0))))] s.heap.size = A at hD hE ⊢
  have hA : ∀ q : Nat, s.heap.size ≤ q → A q := fun q h => by rw [← hAe]; exact Or.inr h
  have hl := lv_entry ([.ref h0, .ref h9]) (n := 3) (Nat.le_of_ble_eq_true rfl)
  rw [lg_entry_eq]
  generalize (lg_sl ([.ref h0, .ref h9]) ++ List.replicate (3 - (lg_sl ([.ref h0, .ref h9])).length) Slot.unset).toArray = ls at hl ⊢
  have hl : lv_has ls 3 [(0, .ref h0), (1, .ref h9)] := hl
  generalize hH : s.heap = H at hP ⊢
  have hS : va_S A s.heap H [] := by rw [← hH]; exact va_S.rf
  refine lv_aload_n hx hb dL_draw_0 rfl (lv_at hl 1 rfl) ?_
  refine lv_iconst (v := 0) hx hb dL_draw_1 (by decide) ?_
  refine lv_aload_n hx hb dL_draw_2 rfl (lv_at hl 0 rfl) ?_
  have hF := va_free (wc := [(h0, .inr (0, [.ref h1, .ref h2, .ref h3, .ref h4, .ref h5, .ref h6, .ref h7])), (h1, .inr (1, [.ref a1, .ref a2, .ref a3, .ref a4, .ref a5, .ref a6, .int 0, .int 0])), (h3, .inr (3, [.ref h1, .ref c1, .int 0]))]) hD hS hA [0, 1, 2] rfl
  refine xkx_i (px := fun E => E = "java/lang/IllegalStateException") (w1 := fun (_ : Unit) => []) (wc := [(h0, .inr (0, [.ref h1, .ref h2, .ref h3, .ref h4, .ref h5, .ref h6, .ref h7])), (h1, .inr (1, [.ref a1, .ref a2, .ref a3, .ref a4, .ref a5, .ref a6, .int 0, .int 0])), (h3, .inr (3, [.ref h1, .ref c1, .int 0]))]) (wr := [(h9, .inl (K 3, 1, .inr (.inl (fun _ => 0))))]) (vx_runV (As := []) (rest := [.int 0, .ref h9]) ⟨hx, hb, hml, hown, hts⟩ (c_X8_draw l hst D K h0 h1 h2 h3 h4 h5 h6 h7 a1 a2 a3 a4 a5 a6 c1 H.size) (cwV 0 hts xg_RL_X8_draw_33 rfl rfl rfl (by decide +kernel) ⟨Nat.le_of_ble_eq_true rfl, Nat.le_of_ble_eq_true rfl⟩) ⟨xPre.blind, va_recv hK hP (ci := 0) (q0 := 0) rfl rfl, xPre.call hE hS (hP.sub [0, 1, 2] rfl) (hD.sub [0, 1, 2] (by decide) rfl) hF⟩ rfl rfl hl.1 rfl (lv_room (Nat.le_of_ble_eq_true rfl)) dL_draw_3 ⟨Nat.le_of_ble_eq_true rfl, Nat.le_of_ble_eq_true rfl⟩) hP hD hS hF [0, 1, 2] [3] rfl rfl rfl (by decide) (fun E9 ce9 q9 H locs hpx_4 hP hD hS hce hcv hcl => ?_) (fun r_2 u_1 H locs hw_3 hP hD hS => ?_)
  · obtain rfl := hpx_4
    refine vx_catch (own := RL) (name := "java/lang/IllegalStateException") hown (tableOf []) ⟨0, 8, 11, 15⟩ (tableOf [(0, 8, 14, 37)]) (htb.trans rfl) (fun z hz => absurd hz List.not_mem_nil) (by decide) (by decide) (hts _ xw7_5) (va_Nw.use rfl (hE.1.2.2.1 "java/lang/IllegalStateException" (by decide +kernel))) hce hcv hcl ?_
    refine lv_astore_n (lv' := [(2, .ref q9), (0, .ref h0), (1, .ref h9)]) hx hb dL_draw_11 rfl hl (by decide) rfl (fun ls hl => ?_)
    refine lv_iconst (v := 1) hx hb dL_draw_12 (by decide) ?_
    have hP9 : va_P D xCl [(h9, .inl (K 3, 1, .inr (.inl (fun _ => 0))))] H := hP.sub [0] rfl
    have hD9 : va_D A [(h9, .inl (K 3, 1, .inr (.inl (fun _ => 0))))] := hD.sub [0] (by decide) rfl
    refine W.widen (k := 1) (n := 6) (Nat.le_of_ble_eq_true rfl) (Nat.le_of_ble_eq_true rfl) ?_
    exact W.iret (v := 1) hx hb hr (fun t ht hW => ⟨⟨1, (), rfl, rfl, by rw [ht]; exact hP9, hD9⟩, hS.F ht⟩) hS.2.2 dL_draw_13
  · exact hw_3.elim
set_option maxHeartbeats 4000000 in
set_option maxRecDepth 100000 in
theorem c_L_ballot (l : Launch) (hst : l.stackTraces = false) (D : va_G) (K : Nat → ClassId) (h0 h9 h1 h2 h3 h4 h5 h6 h7 c1 : Nat) (sz : Nat) (p0 p1 p2 p3 p4 : Int32) : Met l yL_ballot [.codeWith yL_ballot cL_ballot 8 (some .int) [(0, 16, 19, 15), (0, 16, 23, 24), (0, 16, 27, 13), (0, 16, 31, 37)]] ({ frames := 8, cells := 1, slots := 6, locals := 132 }) (xPre D K [.ref h0, .int p0, .int p1, .int p2, .int p3, .int p4, .ref h9] [(h0, .inr (0, [.ref h1, .ref h2, .ref h3, .ref h4, .ref h5, .ref h6, .ref h7])), (h3, .inr (3, [.ref h1, .ref c1, .int 0])), (h9, .inl (K 3, 1, .inr (.inl (fun _ => 0))))] sz) (va_Qi (fun (r : Int32) (u : Unit) => r = 1) (fun u t => xW D (va_A [(h0, .inr (0, [.ref h1, .ref h2, .ref h3, .ref h4, .ref h5, .ref h6, .ref h7])), (h3, .inr (3, [.ref h1, .ref c1, .int 0])), (h9, .inl (K 3, 1, .inr (.inl (fun _ => 0))))] sz) ((fun (_ : Unit) => [(h9, .inl (K 3, 1, .inr (.inl (fun _ => 0))))]) u) t) (va_A [(h0, .inr (0, [.ref h1, .ref h2, .ref h3, .ref h4, .ref h5, .ref h6, .ref h7])), (h3, .inr (3, [.ref h1, .ref c1, .int 0])), (h9, .inl (K 3, 1, .inr (.inl (fun _ => 0))))] sz)) 1 6 (va_A [(h0, .inr (0, [.ref h1, .ref h2, .ref h3, .ref h4, .ref h5, .ref h6, .ref h7])), (h3, .inr (3, [.ref h1, .ref c1, .int 0])), (h9, .inl (K 3, 1, .inr (.inl (fun _ => 0))))] sz) := by
  refine va_MetW (cc := cL_ballot) (maxL := 8) (ret := (some .int)) (by decide) rfl ?_
  intro p e s m args below meth c s₁ B hml hv
  obtain ⟨rfl, hsz, hP, hD0, hE⟩ := hv
  have hx := B.exec
  have hb := B.bytes
  have hr := B.returns
  have hlocks := B.notSynchronized
  have hts := hE.1.ts ([.ref h0, .int p0, .int p1, .int p2, .int p3, .int p4, .ref h9] : List Value).toArray
  have hnt := hE.1.nt ([.ref h0, .int p0, .int p1, .int p2, .int p3, .int p4, .ref h9] : List Value).toArray
  have hK := hE.2.1
  have hown : s.vm.findClass RL = some m.cls := findClass_of_methodNamed B.named
  have htb := vx_table (x := yL_ballot) B (atoms_spec (ws := [.codeWith yL_ballot cL_ballot 8 (some .int) [(0, 16, 19, 15), (0, 16, 23, 24), (0, 16, 27, 13), (0, 16, 31, 37)]]) B.pre _ List.mem_cons_self)
  subst hsz
  have hD := hD0.self (sz := s.heap.size)
  generalize hAe : va_A [(h0, .inr (0, [.ref h1, .ref h2, .ref h3, .ref h4, .ref h5, .ref h6, .ref h7])), (h3, .inr (3, [.ref h1, .ref c1, .int 0])), (h9, .inl (K 3, 1, .inr (.inl (fun _ => 0))))] s.heap.size = A at hD hE ⊢
  have hA : ∀ q : Nat, s.heap.size ≤ q → A q := fun q h => by rw [← hAe]; exact Or.inr h
  have hl := lv_entry ([.ref h0, .int p0, .int p1, .int p2, .int p3, .int p4, .ref h9]) (n := 8) (Nat.le_of_ble_eq_true rfl)
  rw [lg_entry_eq]
  generalize (lg_sl ([.ref h0, .int p0, .int p1, .int p2, .int p3, .int p4, .ref h9]) ++ List.replicate (8 - (lg_sl ([.ref h0, .int p0, .int p1, .int p2, .int p3, .int p4, .ref h9])).length) Slot.unset).toArray = ls at hl ⊢
  have hl : lv_has ls 8 [(0, .ref h0), (1, .int p0), (2, .int p1), (3, .int p2), (4, .int p3), (5, .int p4), (6, .ref h9)] := hl
  generalize hH : s.heap = H at hP ⊢
  have hS : va_S A s.heap H [] := by rw [← hH]; exact va_S.rf
  refine lv_aload hx hb dL_ballot_0 (lv_at hl 6 rfl) ?_
  refine lv_iconst (v := 0) hx hb dL_ballot_2 (by decide) ?_
  refine lv_aload_n hx hb dL_ballot_3 rfl (lv_at hl 0 rfl) ?_
  refine lv_iload_n hx hb dL_ballot_4 rfl (lv_at hl 1 rfl) ?_
  refine lv_iload_n hx hb dL_ballot_5 rfl (lv_at hl 2 rfl) ?_
  refine lv_iload_n hx hb dL_ballot_6 rfl (lv_at hl 3 rfl) ?_
  refine lv_iload hx hb dL_ballot_7 (lv_at hl 4 rfl) ?_
  refine lv_iload hx hb dL_ballot_9 (lv_at hl 5 rfl) ?_
  have hF := va_free (wc := [(h0, .inr (0, [.ref h1, .ref h2, .ref h3, .ref h4, .ref h5, .ref h6, .ref h7])), (h3, .inr (3, [.ref h1, .ref c1, .int 0]))]) hD hS hA [0, 1] rfl
  refine xkx_i (px := fun E => E = "java/lang/IllegalStateException") (w1 := fun (_ : Unit) => []) (wc := [(h0, .inr (0, [.ref h1, .ref h2, .ref h3, .ref h4, .ref h5, .ref h6, .ref h7])), (h3, .inr (3, [.ref h1, .ref c1, .int 0]))]) (wr := [(h9, .inl (K 3, 1, .inr (.inl (fun _ => 0))))]) (vx_runV (As := [.int p0, .int p1, .int p2, .int p3, .int p4]) (rest := [.int 0, .ref h9]) ⟨hx, hb, hml, hown, hts⟩ (c_X8_ballot l hst D K h0 h1 h2 h3 h4 h5 h6 h7 c1 H.size p0 p1 p2 p3 p4) (cwV 5 hts xg_RL_X8_ballot_39 rfl rfl rfl (by decide +kernel) ⟨Nat.le_of_ble_eq_true rfl, Nat.le_of_ble_eq_true rfl⟩) ⟨xPre.blind, va_recv hK hP (ci := 0) (q0 := 0) rfl rfl, xPre.call hE hS (hP.sub [0, 1] rfl) (hD.sub [0, 1] (by decide) rfl) hF⟩ rfl rfl hl.1 rfl (lv_room (Nat.le_of_ble_eq_true rfl)) dL_ballot_11 ⟨Nat.le_of_ble_eq_true rfl, Nat.le_of_ble_eq_true rfl⟩) hP hD hS hF [0, 1] [2] rfl rfl rfl (by decide) (fun E9 ce9 q9 H locs hpx_4 hP hD hS hce hcv hcl => ?_) (fun r_2 u_1 H locs hw_3 hP hD hS => ?_)
  · obtain rfl := hpx_4
    refine vx_catch (own := RL) (name := "java/lang/IllegalStateException") hown (tableOf []) ⟨0, 16, 19, 15⟩ (tableOf [(0, 16, 23, 24), (0, 16, 27, 13), (0, 16, 31, 37)]) (htb.trans rfl) (fun z hz => absurd hz List.not_mem_nil) (by decide) (by decide) (hts _ xw7_5) (va_Nw.use rfl (hE.1.2.2.1 "java/lang/IllegalStateException" (by decide +kernel))) hce hcv hcl ?_
    refine lv_astore (lv' := [(7, .ref q9), (0, .ref h0), (1, .int p0), (2, .int p1), (3, .int p2), (4, .int p3), (5, .int p4), (6, .ref h9)]) hx hb dL_ballot_19 hl (by decide) rfl (fun ls hl => ?_)
    refine lv_iconst (v := 1) hx hb dL_ballot_21 (by decide) ?_
    have hP9 : va_P D xCl [(h9, .inl (K 3, 1, .inr (.inl (fun _ => 0))))] H := hP.sub [0] rfl
    have hD9 : va_D A [(h9, .inl (K 3, 1, .inr (.inl (fun _ => 0))))] := hD.sub [0] (by decide) rfl
    refine W.widen (k := 1) (n := 6) (Nat.le_of_ble_eq_true rfl) (Nat.le_of_ble_eq_true rfl) ?_
    exact W.iret (v := 1) hx hb hr (fun t ht hW => ⟨⟨1, (), rfl, rfl, by rw [ht]; exact hP9, hD9⟩, hS.F ht⟩) hS.2.2 dL_ballot_22
  · exact hw_3.elim
set_option maxHeartbeats 4000000 in
set_option maxRecDepth 100000 in
theorem c_L_swap (l : Launch) (hst : l.stackTraces = false) (D : va_G) (K : Nat → ClassId) (h0 h9 h1 h2 h3 h4 h5 h6 h7 c1 : Nat) (sz : Nat) (p0 p1 : Int32) : Met l yL_swap [.codeWith yL_swap cL_swap 5 (some .int) [(0, 10, 13, 15), (0, 10, 17, 24), (0, 10, 21, 37)]] ({ frames := 8, cells := 1, slots := 6, locals := 132 }) (xPre D K [.ref h0, .int p0, .int p1, .ref h9] [(h0, .inr (0, [.ref h1, .ref h2, .ref h3, .ref h4, .ref h5, .ref h6, .ref h7])), (h3, .inr (3, [.ref h1, .ref c1, .int 0])), (h9, .inl (K 3, 1, .inr (.inl (fun _ => 0))))] sz) (va_Qi (fun (r : Int32) (u : Unit) => r = 1) (fun u t => xW D (va_A [(h0, .inr (0, [.ref h1, .ref h2, .ref h3, .ref h4, .ref h5, .ref h6, .ref h7])), (h3, .inr (3, [.ref h1, .ref c1, .int 0])), (h9, .inl (K 3, 1, .inr (.inl (fun _ => 0))))] sz) ((fun (_ : Unit) => [(h9, .inl (K 3, 1, .inr (.inl (fun _ => 0))))]) u) t) (va_A [(h0, .inr (0, [.ref h1, .ref h2, .ref h3, .ref h4, .ref h5, .ref h6, .ref h7])), (h3, .inr (3, [.ref h1, .ref c1, .int 0])), (h9, .inl (K 3, 1, .inr (.inl (fun _ => 0))))] sz)) 1 6 (va_A [(h0, .inr (0, [.ref h1, .ref h2, .ref h3, .ref h4, .ref h5, .ref h6, .ref h7])), (h3, .inr (3, [.ref h1, .ref c1, .int 0])), (h9, .inl (K 3, 1, .inr (.inl (fun _ => 0))))] sz) := by
  refine va_MetW (cc := cL_swap) (maxL := 5) (ret := (some .int)) (by decide) rfl ?_
  intro p e s m args below meth c s₁ B hml hv
  obtain ⟨rfl, hsz, hP, hD0, hE⟩ := hv
  have hx := B.exec
  have hb := B.bytes
  have hr := B.returns
  have hlocks := B.notSynchronized
  have hts := hE.1.ts ([.ref h0, .int p0, .int p1, .ref h9] : List Value).toArray
  have hnt := hE.1.nt ([.ref h0, .int p0, .int p1, .ref h9] : List Value).toArray
  have hK := hE.2.1
  have hown : s.vm.findClass RL = some m.cls := findClass_of_methodNamed B.named
  have htb := vx_table (x := yL_swap) B (atoms_spec (ws := [.codeWith yL_swap cL_swap 5 (some .int) [(0, 10, 13, 15), (0, 10, 17, 24), (0, 10, 21, 37)]]) B.pre _ List.mem_cons_self)
  subst hsz
  have hD := hD0.self (sz := s.heap.size)
  generalize hAe : va_A [(h0, .inr (0, [.ref h1, .ref h2, .ref h3, .ref h4, .ref h5, .ref h6, .ref h7])), (h3, .inr (3, [.ref h1, .ref c1, .int 0])), (h9, .inl (K 3, 1, .inr (.inl (fun _ => 0))))] s.heap.size = A at hD hE ⊢
  have hA : ∀ q : Nat, s.heap.size ≤ q → A q := fun q h => by rw [← hAe]; exact Or.inr h
  have hl := lv_entry ([.ref h0, .int p0, .int p1, .ref h9]) (n := 5) (Nat.le_of_ble_eq_true rfl)
  rw [lg_entry_eq]
  generalize (lg_sl ([.ref h0, .int p0, .int p1, .ref h9]) ++ List.replicate (5 - (lg_sl ([.ref h0, .int p0, .int p1, .ref h9])).length) Slot.unset).toArray = ls at hl ⊢
  have hl : lv_has ls 5 [(0, .ref h0), (1, .int p0), (2, .int p1), (3, .ref h9)] := hl
  generalize hH : s.heap = H at hP ⊢
  have hS : va_S A s.heap H [] := by rw [← hH]; exact va_S.rf
  refine lv_aload_n hx hb dL_swap_0 rfl (lv_at hl 3 rfl) ?_
  refine lv_iconst (v := 0) hx hb dL_swap_1 (by decide) ?_
  refine lv_aload_n hx hb dL_swap_2 rfl (lv_at hl 0 rfl) ?_
  refine lv_iload_n hx hb dL_swap_3 rfl (lv_at hl 1 rfl) ?_
  refine lv_iload_n hx hb dL_swap_4 rfl (lv_at hl 2 rfl) ?_
  have hF := va_free (wc := [(h0, .inr (0, [.ref h1, .ref h2, .ref h3, .ref h4, .ref h5, .ref h6, .ref h7])), (h3, .inr (3, [.ref h1, .ref c1, .int 0]))]) hD hS hA [0, 1] rfl
  refine xkx_i (px := fun E => E = "java/lang/IllegalStateException") (w1 := fun (_ : Unit) => []) (wc := [(h0, .inr (0, [.ref h1, .ref h2, .ref h3, .ref h4, .ref h5, .ref h6, .ref h7])), (h3, .inr (3, [.ref h1, .ref c1, .int 0]))]) (wr := [(h9, .inl (K 3, 1, .inr (.inl (fun _ => 0))))]) (vx_runV (As := [.int p0, .int p1]) (rest := [.int 0, .ref h9]) ⟨hx, hb, hml, hown, hts⟩ (c_X8_swap l hst D K h0 h1 h2 h3 h4 h5 h6 h7 c1 H.size p0 p1) (cwV 2 hts xg_RL_X8_swap_43 rfl rfl rfl (by decide +kernel) ⟨Nat.le_of_ble_eq_true rfl, Nat.le_of_ble_eq_true rfl⟩) ⟨xPre.blind, va_recv hK hP (ci := 0) (q0 := 0) rfl rfl, xPre.call hE hS (hP.sub [0, 1] rfl) (hD.sub [0, 1] (by decide) rfl) hF⟩ rfl rfl hl.1 rfl (lv_room (Nat.le_of_ble_eq_true rfl)) dL_swap_5 ⟨Nat.le_of_ble_eq_true rfl, Nat.le_of_ble_eq_true rfl⟩) hP hD hS hF [0, 1] [2] rfl rfl rfl (by decide) (fun E9 ce9 q9 H locs hpx_4 hP hD hS hce hcv hcl => ?_) (fun r_2 u_1 H locs hw_3 hP hD hS => ?_)
  · obtain rfl := hpx_4
    refine vx_catch (own := RL) (name := "java/lang/IllegalStateException") hown (tableOf []) ⟨0, 10, 13, 15⟩ (tableOf [(0, 10, 17, 24), (0, 10, 21, 37)]) (htb.trans rfl) (fun z hz => absurd hz List.not_mem_nil) (by decide) (by decide) (hts _ xw7_5) (va_Nw.use rfl (hE.1.2.2.1 "java/lang/IllegalStateException" (by decide +kernel))) hce hcv hcl ?_
    refine lv_astore (lv' := [(4, .ref q9), (0, .ref h0), (1, .int p0), (2, .int p1), (3, .ref h9)]) hx hb dL_swap_13 hl (by decide) rfl (fun ls hl => ?_)
    refine lv_iconst (v := 1) hx hb dL_swap_15 (by decide) ?_
    have hP9 : va_P D xCl [(h9, .inl (K 3, 1, .inr (.inl (fun _ => 0))))] H := hP.sub [0] rfl
    have hD9 : va_D A [(h9, .inl (K 3, 1, .inr (.inl (fun _ => 0))))] := hD.sub [0] (by decide) rfl
    refine W.widen (k := 1) (n := 6) (Nat.le_of_ble_eq_true rfl) (Nat.le_of_ble_eq_true rfl) ?_
    exact W.iret (v := 1) hx hb hr (fun t ht hW => ⟨⟨1, (), rfl, rfl, by rw [ht]; exact hP9, hD9⟩, hS.F ht⟩) hS.2.2 dL_swap_16
  · exact hw_3.elim
set_option maxHeartbeats 4000000 in
set_option maxRecDepth 100000 in
theorem c_L_schoolOf (l : Launch) (hst : l.stackTraces = false) (D : va_G) (K : Nat → ClassId) (h0 h9 h1 h2 h3 h4 h5 h6 h7 a1 a2 a3 a4 a5 a6 : Nat) (sz : Nat) (p0 : Int32) : Met l yL_schoolOf [.codeWith yL_schoolOf cL_schoolOf 4 (some .int) [(0, 9, 12, 24)]] ({ frames := 8, cells := 1, slots := 6, locals := 124 }) (xPre D K [.ref h0, .int p0, .ref h9] [(h0, .inr (0, [.ref h1, .ref h2, .ref h3, .ref h4, .ref h5, .ref h6, .ref h7])), (h1, .inr (1, [.ref a1, .ref a2, .ref a3, .ref a4, .ref a5, .ref a6, .int 0, .int 0])), (h9, .inl (K 3, 1, .inr (.inl (fun _ => 0))))] sz) (va_Qi (fun (r : Int32) (u : Unit) => r = 1) (fun u t => xW D (va_A [(h0, .inr (0, [.ref h1, .ref h2, .ref h3, .ref h4, .ref h5, .ref h6, .ref h7])), (h1, .inr (1, [.ref a1, .ref a2, .ref a3, .ref a4, .ref a5, .ref a6, .int 0, .int 0])), (h9, .inl (K 3, 1, .inr (.inl (fun _ => 0))))] sz) ((fun (_ : Unit) => [(h9, .inl (K 3, 1, .inr (.inl (fun _ => 0))))]) u) t) (va_A [(h0, .inr (0, [.ref h1, .ref h2, .ref h3, .ref h4, .ref h5, .ref h6, .ref h7])), (h1, .inr (1, [.ref a1, .ref a2, .ref a3, .ref a4, .ref a5, .ref a6, .int 0, .int 0])), (h9, .inl (K 3, 1, .inr (.inl (fun _ => 0))))] sz)) 1 6 (va_A [(h0, .inr (0, [.ref h1, .ref h2, .ref h3, .ref h4, .ref h5, .ref h6, .ref h7])), (h1, .inr (1, [.ref a1, .ref a2, .ref a3, .ref a4, .ref a5, .ref a6, .int 0, .int 0])), (h9, .inl (K 3, 1, .inr (.inl (fun _ => 0))))] sz) := by
  refine va_MetW (cc := cL_schoolOf) (maxL := 4) (ret := (some .int)) (by decide) rfl ?_
  intro p e s m args below meth c s₁ B hml hv
  obtain ⟨rfl, hsz, hP, hD0, hE⟩ := hv
  have hx := B.exec
  have hb := B.bytes
  have hr := B.returns
  have hlocks := B.notSynchronized
  have hts := hE.1.ts ([.ref h0, .int p0, .ref h9] : List Value).toArray
  have hnt := hE.1.nt ([.ref h0, .int p0, .ref h9] : List Value).toArray
  have hK := hE.2.1
  have hown : s.vm.findClass RL = some m.cls := findClass_of_methodNamed B.named
  have htb := vx_table (x := yL_schoolOf) B (atoms_spec (ws := [.codeWith yL_schoolOf cL_schoolOf 4 (some .int) [(0, 9, 12, 24)]]) B.pre _ List.mem_cons_self)
  subst hsz
  have hD := hD0.self (sz := s.heap.size)
  generalize hAe : va_A [(h0, .inr (0, [.ref h1, .ref h2, .ref h3, .ref h4, .ref h5, .ref h6, .ref h7])), (h1, .inr (1, [.ref a1, .ref a2, .ref a3, .ref a4, .ref a5, .ref a6, .int 0, .int 0])), (h9, .inl (K 3, 1, .inr (.inl (fun _ => 0))))] s.heap.size = A at hD hE ⊢
  have hA : ∀ q : Nat, s.heap.size ≤ q → A q := fun q h => by rw [← hAe]; exact Or.inr h
  have hl := lv_entry ([.ref h0, .int p0, .ref h9]) (n := 4) (Nat.le_of_ble_eq_true rfl)
  rw [lg_entry_eq]
  generalize (lg_sl ([.ref h0, .int p0, .ref h9]) ++ List.replicate (4 - (lg_sl ([.ref h0, .int p0, .ref h9])).length) Slot.unset).toArray = ls at hl ⊢
  have hl : lv_has ls 4 [(0, .ref h0), (1, .int p0), (2, .ref h9)] := hl
  generalize hH : s.heap = H at hP ⊢
  have hS : va_S A s.heap H [] := by rw [← hH]; exact va_S.rf
  refine lv_aload_n hx hb dL_schoolOf_0 rfl (lv_at hl 2 rfl) ?_
  refine lv_iconst (v := 0) hx hb dL_schoolOf_1 (by decide) ?_
  refine lv_aload_n hx hb dL_schoolOf_2 rfl (lv_at hl 0 rfl) ?_
  refine lv_iload_n hx hb dL_schoolOf_3 rfl (lv_at hl 1 rfl) ?_
  have hF := va_free (wc := [(h0, .inr (0, [.ref h1, .ref h2, .ref h3, .ref h4, .ref h5, .ref h6, .ref h7])), (h1, .inr (1, [.ref a1, .ref a2, .ref a3, .ref a4, .ref a5, .ref a6, .int 0, .int 0]))]) hD hS hA [0, 1] rfl
  refine xkx_i (px := fun E => E = "java/util/NoSuchElementException") (w1 := fun (_ : Unit) => []) (wc := [(h0, .inr (0, [.ref h1, .ref h2, .ref h3, .ref h4, .ref h5, .ref h6, .ref h7])), (h1, .inr (1, [.ref a1, .ref a2, .ref a3, .ref a4, .ref a5, .ref a6, .int 0, .int 0]))]) (wr := [(h9, .inl (K 3, 1, .inr (.inl (fun _ => 0))))]) (vx_runV (As := [.int p0]) (rest := [.int 0, .ref h9]) ⟨hx, hb, hml, hown, hts⟩ (c_X8_schoolOf l hst D K h0 h1 h2 h3 h4 h5 h6 h7 a1 a2 a3 a4 a5 a6 H.size p0) (cwV 1 hts xg_RL_X8_schoolOf_46 rfl rfl rfl (by decide +kernel) ⟨Nat.le_of_ble_eq_true rfl, Nat.le_of_ble_eq_true rfl⟩) ⟨xPre.blind, va_recv hK hP (ci := 0) (q0 := 0) rfl rfl, xPre.call hE hS (hP.sub [0, 1] rfl) (hD.sub [0, 1] (by decide) rfl) hF⟩ rfl rfl hl.1 rfl (lv_room (Nat.le_of_ble_eq_true rfl)) dL_schoolOf_4 ⟨Nat.le_of_ble_eq_true rfl, Nat.le_of_ble_eq_true rfl⟩) hP hD hS hF [0, 1] [2] rfl rfl rfl (by decide) (fun E9 ce9 q9 H locs hpx_4 hP hD hS hce hcv hcl => ?_) (fun r_2 u_1 H locs hw_3 hP hD hS => ?_)
  · obtain rfl := hpx_4
    refine vx_catch (own := RL) (name := "java/util/NoSuchElementException") hown (tableOf []) ⟨0, 9, 12, 24⟩ (tableOf []) (htb.trans rfl) (fun z hz => absurd hz List.not_mem_nil) (by decide) (by decide) (hts _ xw9_7) (va_Nw.use rfl (hE.1.2.2.1 "java/util/NoSuchElementException" (by decide +kernel))) hce hcv hcl ?_
    refine lv_astore_n (lv' := [(3, .ref q9), (0, .ref h0), (1, .int p0), (2, .ref h9)]) hx hb dL_schoolOf_12 rfl hl (by decide) rfl (fun ls hl => ?_)
    refine lv_iconst (v := 1) hx hb dL_schoolOf_13 (by decide) ?_
    have hP9 : va_P D xCl [(h9, .inl (K 3, 1, .inr (.inl (fun _ => 0))))] H := hP.sub [0] rfl
    have hD9 : va_D A [(h9, .inl (K 3, 1, .inr (.inl (fun _ => 0))))] := hD.sub [0] (by decide) rfl
    refine W.widen (k := 1) (n := 6) (Nat.le_of_ble_eq_true rfl) (Nat.le_of_ble_eq_true rfl) ?_
    exact W.iret (v := 1) hx hb hr (fun t ht hW => ⟨⟨1, (), rfl, rfl, by rw [ht]; exact hP9, hD9⟩, hS.F ht⟩) hS.2.2 dL_schoolOf_14
  · exact hw_3.elim
set_option maxHeartbeats 4000000 in
set_option maxRecDepth 100000 in
theorem c_L_isPresent (l : Launch) (hst : l.stackTraces = false) (D : va_G) (K : Nat → ClassId) (h0 h9 h1 h2 h3 h4 h5 h6 h7 a1 a2 a3 a4 a5 a6 : Nat) (sz : Nat) (p0 : Int32) : Met l yL_isPresent [.codeWith yL_isPresent cL_isPresent 4 (some .int) [(0, 16, 19, 24)]] ({ frames := 8, cells := 1, slots := 6, locals := 124 }) (xPre D K [.ref h0, .int p0, .ref h9] [(h0, .inr (0, [.ref h1, .ref h2, .ref h3, .ref h4, .ref h5, .ref h6, .ref h7])), (h1, .inr (1, [.ref a1, .ref a2, .ref a3, .ref a4, .ref a5, .ref a6, .int 0, .int 0])), (h9, .inl (K 3, 1, .inr (.inl (fun _ => 0))))] sz) (va_Qi (fun (r : Int32) (u : Unit) => r = 1) (fun u t => xW D (va_A [(h0, .inr (0, [.ref h1, .ref h2, .ref h3, .ref h4, .ref h5, .ref h6, .ref h7])), (h1, .inr (1, [.ref a1, .ref a2, .ref a3, .ref a4, .ref a5, .ref a6, .int 0, .int 0])), (h9, .inl (K 3, 1, .inr (.inl (fun _ => 0))))] sz) ((fun (_ : Unit) => [(h9, .inl (K 3, 1, .inr (.inl (fun _ => 0))))]) u) t) (va_A [(h0, .inr (0, [.ref h1, .ref h2, .ref h3, .ref h4, .ref h5, .ref h6, .ref h7])), (h1, .inr (1, [.ref a1, .ref a2, .ref a3, .ref a4, .ref a5, .ref a6, .int 0, .int 0])), (h9, .inl (K 3, 1, .inr (.inl (fun _ => 0))))] sz)) 1 6 (va_A [(h0, .inr (0, [.ref h1, .ref h2, .ref h3, .ref h4, .ref h5, .ref h6, .ref h7])), (h1, .inr (1, [.ref a1, .ref a2, .ref a3, .ref a4, .ref a5, .ref a6, .int 0, .int 0])), (h9, .inl (K 3, 1, .inr (.inl (fun _ => 0))))] sz) := by
  refine va_MetW (cc := cL_isPresent) (maxL := 4) (ret := (some .int)) (by decide) rfl ?_
  intro p e s m args below meth c s₁ B hml hv
  obtain ⟨rfl, hsz, hP, hD0, hE⟩ := hv
  have hx := B.exec
  have hb := B.bytes
  have hr := B.returns
  have hlocks := B.notSynchronized
  have hts := hE.1.ts ([.ref h0, .int p0, .ref h9] : List Value).toArray
  have hnt := hE.1.nt ([.ref h0, .int p0, .ref h9] : List Value).toArray
  have hK := hE.2.1
  have hown : s.vm.findClass RL = some m.cls := findClass_of_methodNamed B.named
  have htb := vx_table (x := yL_isPresent) B (atoms_spec (ws := [.codeWith yL_isPresent cL_isPresent 4 (some .int) [(0, 16, 19, 24)]]) B.pre _ List.mem_cons_self)
  subst hsz
  have hD := hD0.self (sz := s.heap.size)
  generalize hAe : va_A [(h0, .inr (0, [.ref h1, .ref h2, .ref h3, .ref h4, .ref h5, .ref h6, .ref h7])), (h1, .inr (1, [.ref a1, .ref a2, .ref a3, .ref a4, .ref a5, .ref a6, .int 0, .int 0])), (h9, .inl (K 3, 1, .inr (.inl (fun _ => 0))))] s.heap.size = A at hD hE ⊢
  have hA : ∀ q : Nat, s.heap.size ≤ q → A q := fun q h => by rw [← hAe]; exact Or.inr h
  have hl := lv_entry ([.ref h0, .int p0, .ref h9]) (n := 4) (Nat.le_of_ble_eq_true rfl)
  rw [lg_entry_eq]
  generalize (lg_sl ([.ref h0, .int p0, .ref h9]) ++ List.replicate (4 - (lg_sl ([.ref h0, .int p0, .ref h9])).length) Slot.unset).toArray = ls at hl ⊢
  have hl : lv_has ls 4 [(0, .ref h0), (1, .int p0), (2, .ref h9)] := hl
  generalize hH : s.heap = H at hP ⊢
  have hS : va_S A s.heap H [] := by rw [← hH]; exact va_S.rf
  refine lv_aload_n hx hb dL_isPresent_0 rfl (lv_at hl 2 rfl) ?_
  refine lv_iconst (v := 0) hx hb dL_isPresent_1 (by decide) ?_
  refine lv_aload_n hx hb dL_isPresent_2 rfl (lv_at hl 0 rfl) ?_
  refine lv_iload_n hx hb dL_isPresent_3 rfl (lv_at hl 1 rfl) ?_
  have hF := va_free (wc := [(h0, .inr (0, [.ref h1, .ref h2, .ref h3, .ref h4, .ref h5, .ref h6, .ref h7])), (h1, .inr (1, [.ref a1, .ref a2, .ref a3, .ref a4, .ref a5, .ref a6, .int 0, .int 0]))]) hD hS hA [0, 1] rfl
  refine xkx_i (px := fun E => E = "java/util/NoSuchElementException") (w1 := fun (_ : Unit) => []) (wc := [(h0, .inr (0, [.ref h1, .ref h2, .ref h3, .ref h4, .ref h5, .ref h6, .ref h7])), (h1, .inr (1, [.ref a1, .ref a2, .ref a3, .ref a4, .ref a5, .ref a6, .int 0, .int 0]))]) (wr := [(h9, .inl (K 3, 1, .inr (.inl (fun _ => 0))))]) (vx_runV (As := [.int p0]) (rest := [.int 0, .ref h9]) ⟨hx, hb, hml, hown, hts⟩ (c_X8_isPresent l hst D K h0 h1 h2 h3 h4 h5 h6 h7 a1 a2 a3 a4 a5 a6 H.size p0) (cwV 1 hts xg_RL_X8_isPresent_49 rfl rfl rfl (by decide +kernel) ⟨Nat.le_of_ble_eq_true rfl, Nat.le_of_ble_eq_true rfl⟩) ⟨xPre.blind, va_recv hK hP (ci := 0) (q0 := 0) rfl rfl, xPre.call hE hS (hP.sub [0, 1] rfl) (hD.sub [0, 1] (by decide) rfl) hF⟩ rfl rfl hl.1 rfl (lv_room (Nat.le_of_ble_eq_true rfl)) dL_isPresent_4 ⟨Nat.le_of_ble_eq_true rfl, Nat.le_of_ble_eq_true rfl⟩) hP hD hS hF [0, 1] [2] rfl rfl rfl (by decide) (fun E9 ce9 q9 H locs hpx_4 hP hD hS hce hcv hcl => ?_) (fun r_2 u_1 H locs hw_3 hP hD hS => ?_)
  · obtain rfl := hpx_4
    refine vx_catch (own := RL) (name := "java/util/NoSuchElementException") hown (tableOf []) ⟨0, 16, 19, 24⟩ (tableOf []) (htb.trans rfl) (fun z hz => absurd hz List.not_mem_nil) (by decide) (by decide) (hts _ xw9_7) (va_Nw.use rfl (hE.1.2.2.1 "java/util/NoSuchElementException" (by decide +kernel))) hce hcv hcl ?_
    refine lv_astore_n (lv' := [(3, .ref q9), (0, .ref h0), (1, .int p0), (2, .ref h9)]) hx hb dL_isPresent_19 rfl hl (by decide) rfl (fun ls hl => ?_)
    refine lv_iconst (v := 1) hx hb dL_isPresent_20 (by decide) ?_
    have hP9 : va_P D xCl [(h9, .inl (K 3, 1, .inr (.inl (fun _ => 0))))] H := hP.sub [0] rfl
    have hD9 : va_D A [(h9, .inl (K 3, 1, .inr (.inl (fun _ => 0))))] := hD.sub [0] (by decide) rfl
    refine W.widen (k := 1) (n := 6) (Nat.le_of_ble_eq_true rfl) (Nat.le_of_ble_eq_true rfl) ?_
    exact W.iret (v := 1) hx hb hr (fun t ht hW => ⟨⟨1, (), rfl, rfl, by rw [ht]; exact hP9, hD9⟩, hS.F ht⟩) hS.2.2 dL_isPresent_21
  · exact hw_3.elim
set_option maxHeartbeats 4000000 in
set_option maxRecDepth 100000 in
theorem c_L_mayJudge (l : Launch) (hst : l.stackTraces = false) (D : va_G) (K : Nat → ClassId) (h0 h9 h1 h2 h3 h4 h5 h6 h7 a1 a2 a3 a4 a5 a6 : Nat) (sz : Nat) (p0 p1 : Int32) : Met l yL_mayJudge [.codeWith yL_mayJudge cL_mayJudge 5 (some .int) [(0, 17, 20, 24)]] ({ frames := 8, cells := 1, slots := 6, locals := 125 }) (xPre D K [.ref h0, .int p0, .int p1, .ref h9] [(h0, .inr (0, [.ref h1, .ref h2, .ref h3, .ref h4, .ref h5, .ref h6, .ref h7])), (h1, .inr (1, [.ref a1, .ref a2, .ref a3, .ref a4, .ref a5, .ref a6, .int 0, .int 0])), (h9, .inl (K 3, 1, .inr (.inl (fun _ => 0))))] sz) (va_Qi (fun (r : Int32) (u : Unit) => r = 1) (fun u t => xW D (va_A [(h0, .inr (0, [.ref h1, .ref h2, .ref h3, .ref h4, .ref h5, .ref h6, .ref h7])), (h1, .inr (1, [.ref a1, .ref a2, .ref a3, .ref a4, .ref a5, .ref a6, .int 0, .int 0])), (h9, .inl (K 3, 1, .inr (.inl (fun _ => 0))))] sz) ((fun (_ : Unit) => [(h9, .inl (K 3, 1, .inr (.inl (fun _ => 0))))]) u) t) (va_A [(h0, .inr (0, [.ref h1, .ref h2, .ref h3, .ref h4, .ref h5, .ref h6, .ref h7])), (h1, .inr (1, [.ref a1, .ref a2, .ref a3, .ref a4, .ref a5, .ref a6, .int 0, .int 0])), (h9, .inl (K 3, 1, .inr (.inl (fun _ => 0))))] sz)) 1 6 (va_A [(h0, .inr (0, [.ref h1, .ref h2, .ref h3, .ref h4, .ref h5, .ref h6, .ref h7])), (h1, .inr (1, [.ref a1, .ref a2, .ref a3, .ref a4, .ref a5, .ref a6, .int 0, .int 0])), (h9, .inl (K 3, 1, .inr (.inl (fun _ => 0))))] sz) := by
  refine va_MetW (cc := cL_mayJudge) (maxL := 5) (ret := (some .int)) (by decide) rfl ?_
  intro p e s m args below meth c s₁ B hml hv
  obtain ⟨rfl, hsz, hP, hD0, hE⟩ := hv
  have hx := B.exec
  have hb := B.bytes
  have hr := B.returns
  have hlocks := B.notSynchronized
  have hts := hE.1.ts ([.ref h0, .int p0, .int p1, .ref h9] : List Value).toArray
  have hnt := hE.1.nt ([.ref h0, .int p0, .int p1, .ref h9] : List Value).toArray
  have hK := hE.2.1
  have hown : s.vm.findClass RL = some m.cls := findClass_of_methodNamed B.named
  have htb := vx_table (x := yL_mayJudge) B (atoms_spec (ws := [.codeWith yL_mayJudge cL_mayJudge 5 (some .int) [(0, 17, 20, 24)]]) B.pre _ List.mem_cons_self)
  subst hsz
  have hD := hD0.self (sz := s.heap.size)
  generalize hAe : va_A [(h0, .inr (0, [.ref h1, .ref h2, .ref h3, .ref h4, .ref h5, .ref h6, .ref h7])), (h1, .inr (1, [.ref a1, .ref a2, .ref a3, .ref a4, .ref a5, .ref a6, .int 0, .int 0])), (h9, .inl (K 3, 1, .inr (.inl (fun _ => 0))))] s.heap.size = A at hD hE ⊢
  have hA : ∀ q : Nat, s.heap.size ≤ q → A q := fun q h => by rw [← hAe]; exact Or.inr h
  have hl := lv_entry ([.ref h0, .int p0, .int p1, .ref h9]) (n := 5) (Nat.le_of_ble_eq_true rfl)
  rw [lg_entry_eq]
  generalize (lg_sl ([.ref h0, .int p0, .int p1, .ref h9]) ++ List.replicate (5 - (lg_sl ([.ref h0, .int p0, .int p1, .ref h9])).length) Slot.unset).toArray = ls at hl ⊢
  have hl : lv_has ls 5 [(0, .ref h0), (1, .int p0), (2, .int p1), (3, .ref h9)] := hl
  generalize hH : s.heap = H at hP ⊢
  have hS : va_S A s.heap H [] := by rw [← hH]; exact va_S.rf
  refine lv_aload_n hx hb dL_mayJudge_0 rfl (lv_at hl 3 rfl) ?_
  refine lv_iconst (v := 0) hx hb dL_mayJudge_1 (by decide) ?_
  refine lv_aload_n hx hb dL_mayJudge_2 rfl (lv_at hl 0 rfl) ?_
  refine lv_iload_n hx hb dL_mayJudge_3 rfl (lv_at hl 1 rfl) ?_
  refine lv_iload_n hx hb dL_mayJudge_4 rfl (lv_at hl 2 rfl) ?_
  have hF := va_free (wc := [(h0, .inr (0, [.ref h1, .ref h2, .ref h3, .ref h4, .ref h5, .ref h6, .ref h7])), (h1, .inr (1, [.ref a1, .ref a2, .ref a3, .ref a4, .ref a5, .ref a6, .int 0, .int 0]))]) hD hS hA [0, 1] rfl
  refine xkx_i (px := fun E => E = "java/util/NoSuchElementException") (w1 := fun (_ : Unit) => []) (wc := [(h0, .inr (0, [.ref h1, .ref h2, .ref h3, .ref h4, .ref h5, .ref h6, .ref h7])), (h1, .inr (1, [.ref a1, .ref a2, .ref a3, .ref a4, .ref a5, .ref a6, .int 0, .int 0]))]) (wr := [(h9, .inl (K 3, 1, .inr (.inl (fun _ => 0))))]) (vx_runV (As := [.int p0, .int p1]) (rest := [.int 0, .ref h9]) ⟨hx, hb, hml, hown, hts⟩ (c_X8_mayJudge l hst D K h0 h1 h2 h3 h4 h5 h6 h7 a1 a2 a3 a4 a5 a6 H.size p0 p1) (cwV 2 hts xg_RL_X8_mayJudge_53 rfl rfl rfl (by decide +kernel) ⟨Nat.le_of_ble_eq_true rfl, Nat.le_of_ble_eq_true rfl⟩) ⟨xPre.blind, va_recv hK hP (ci := 0) (q0 := 0) rfl rfl, xPre.call hE hS (hP.sub [0, 1] rfl) (hD.sub [0, 1] (by decide) rfl) hF⟩ rfl rfl hl.1 rfl (lv_room (Nat.le_of_ble_eq_true rfl)) dL_mayJudge_5 ⟨Nat.le_of_ble_eq_true rfl, Nat.le_of_ble_eq_true rfl⟩) hP hD hS hF [0, 1] [2] rfl rfl rfl (by decide) (fun E9 ce9 q9 H locs hpx_4 hP hD hS hce hcv hcl => ?_) (fun r_2 u_1 H locs hw_3 hP hD hS => ?_)
  · obtain rfl := hpx_4
    refine vx_catch (own := RL) (name := "java/util/NoSuchElementException") hown (tableOf []) ⟨0, 17, 20, 24⟩ (tableOf []) (htb.trans rfl) (fun z hz => absurd hz List.not_mem_nil) (by decide) (by decide) (hts _ xw9_7) (va_Nw.use rfl (hE.1.2.2.1 "java/util/NoSuchElementException" (by decide +kernel))) hce hcv hcl ?_
    refine lv_astore (lv' := [(4, .ref q9), (0, .ref h0), (1, .int p0), (2, .int p1), (3, .ref h9)]) hx hb dL_mayJudge_20 hl (by decide) rfl (fun ls hl => ?_)
    refine lv_iconst (v := 1) hx hb dL_mayJudge_22 (by decide) ?_
    have hP9 : va_P D xCl [(h9, .inl (K 3, 1, .inr (.inl (fun _ => 0))))] H := hP.sub [0] rfl
    have hD9 : va_D A [(h9, .inl (K 3, 1, .inr (.inl (fun _ => 0))))] := hD.sub [0] (by decide) rfl
    refine W.widen (k := 1) (n := 6) (Nat.le_of_ble_eq_true rfl) (Nat.le_of_ble_eq_true rfl) ?_
    exact W.iret (v := 1) hx hb hr (fun t ht hW => ⟨⟨1, (), rfl, rfl, by rw [ht]; exact hP9, hD9⟩, hS.F ht⟩) hS.2.2 dL_mayJudge_23
  · exact hw_3.elim
set_option maxHeartbeats 4000000 in
set_option maxRecDepth 100000 in
theorem c_L_conflicts (l : Launch) (hst : l.stackTraces = false) (D : va_G) (K : Nat → ClassId) (h0 h9 h1 h2 h3 h4 h5 h6 h7 a1 a2 a3 a4 a5 a6 : Nat) (sz : Nat) (p0 : Int32) : Met l yL_conflicts [.codeWith yL_conflicts cL_conflicts 4 (some .int) [(0, 9, 12, 24)]] ({ frames := 8, cells := 1, slots := 6, locals := 124 }) (xPre D K [.ref h0, .int p0, .ref h9] [(h0, .inr (0, [.ref h1, .ref h2, .ref h3, .ref h4, .ref h5, .ref h6, .ref h7])), (h1, .inr (1, [.ref a1, .ref a2, .ref a3, .ref a4, .ref a5, .ref a6, .int 0, .int 0])), (h9, .inl (K 3, 1, .inr (.inl (fun _ => 0))))] sz) (va_Qi (fun (r : Int32) (u : Unit) => r = 1) (fun u t => xW D (va_A [(h0, .inr (0, [.ref h1, .ref h2, .ref h3, .ref h4, .ref h5, .ref h6, .ref h7])), (h1, .inr (1, [.ref a1, .ref a2, .ref a3, .ref a4, .ref a5, .ref a6, .int 0, .int 0])), (h9, .inl (K 3, 1, .inr (.inl (fun _ => 0))))] sz) ((fun (_ : Unit) => [(h9, .inl (K 3, 1, .inr (.inl (fun _ => 0))))]) u) t) (va_A [(h0, .inr (0, [.ref h1, .ref h2, .ref h3, .ref h4, .ref h5, .ref h6, .ref h7])), (h1, .inr (1, [.ref a1, .ref a2, .ref a3, .ref a4, .ref a5, .ref a6, .int 0, .int 0])), (h9, .inl (K 3, 1, .inr (.inl (fun _ => 0))))] sz)) 1 6 (va_A [(h0, .inr (0, [.ref h1, .ref h2, .ref h3, .ref h4, .ref h5, .ref h6, .ref h7])), (h1, .inr (1, [.ref a1, .ref a2, .ref a3, .ref a4, .ref a5, .ref a6, .int 0, .int 0])), (h9, .inl (K 3, 1, .inr (.inl (fun _ => 0))))] sz) := by
  refine va_MetW (cc := cL_conflicts) (maxL := 4) (ret := (some .int)) (by decide) rfl ?_
  intro p e s m args below meth c s₁ B hml hv
  obtain ⟨rfl, hsz, hP, hD0, hE⟩ := hv
  have hx := B.exec
  have hb := B.bytes
  have hr := B.returns
  have hlocks := B.notSynchronized
  have hts := hE.1.ts ([.ref h0, .int p0, .ref h9] : List Value).toArray
  have hnt := hE.1.nt ([.ref h0, .int p0, .ref h9] : List Value).toArray
  have hK := hE.2.1
  have hown : s.vm.findClass RL = some m.cls := findClass_of_methodNamed B.named
  have htb := vx_table (x := yL_conflicts) B (atoms_spec (ws := [.codeWith yL_conflicts cL_conflicts 4 (some .int) [(0, 9, 12, 24)]]) B.pre _ List.mem_cons_self)
  subst hsz
  have hD := hD0.self (sz := s.heap.size)
  generalize hAe : va_A [(h0, .inr (0, [.ref h1, .ref h2, .ref h3, .ref h4, .ref h5, .ref h6, .ref h7])), (h1, .inr (1, [.ref a1, .ref a2, .ref a3, .ref a4, .ref a5, .ref a6, .int 0, .int 0])), (h9, .inl (K 3, 1, .inr (.inl (fun _ => 0))))] s.heap.size = A at hD hE ⊢
  have hA : ∀ q : Nat, s.heap.size ≤ q → A q := fun q h => by rw [← hAe]; exact Or.inr h
  have hl := lv_entry ([.ref h0, .int p0, .ref h9]) (n := 4) (Nat.le_of_ble_eq_true rfl)
  rw [lg_entry_eq]
  generalize (lg_sl ([.ref h0, .int p0, .ref h9]) ++ List.replicate (4 - (lg_sl ([.ref h0, .int p0, .ref h9])).length) Slot.unset).toArray = ls at hl ⊢
  have hl : lv_has ls 4 [(0, .ref h0), (1, .int p0), (2, .ref h9)] := hl
  generalize hH : s.heap = H at hP ⊢
  have hS : va_S A s.heap H [] := by rw [← hH]; exact va_S.rf
  refine lv_aload_n hx hb dL_conflicts_0 rfl (lv_at hl 2 rfl) ?_
  refine lv_iconst (v := 0) hx hb dL_conflicts_1 (by decide) ?_
  refine lv_aload_n hx hb dL_conflicts_2 rfl (lv_at hl 0 rfl) ?_
  refine lv_iload_n hx hb dL_conflicts_3 rfl (lv_at hl 1 rfl) ?_
  have hF := va_free (wc := [(h0, .inr (0, [.ref h1, .ref h2, .ref h3, .ref h4, .ref h5, .ref h6, .ref h7])), (h1, .inr (1, [.ref a1, .ref a2, .ref a3, .ref a4, .ref a5, .ref a6, .int 0, .int 0]))]) hD hS hA [0, 1] rfl
  refine xkx_i (px := fun E => E = "java/util/NoSuchElementException") (w1 := fun (_ : Unit) => []) (wc := [(h0, .inr (0, [.ref h1, .ref h2, .ref h3, .ref h4, .ref h5, .ref h6, .ref h7])), (h1, .inr (1, [.ref a1, .ref a2, .ref a3, .ref a4, .ref a5, .ref a6, .int 0, .int 0]))]) (wr := [(h9, .inl (K 3, 1, .inr (.inl (fun _ => 0))))]) (vx_runV (As := [.int p0]) (rest := [.int 0, .ref h9]) ⟨hx, hb, hml, hown, hts⟩ (c_X8_conflicts l hst D K h0 h1 h2 h3 h4 h5 h6 h7 a1 a2 a3 a4 a5 a6 H.size p0) (cwV 1 hts xg_RL_X8_conflicts_57 rfl rfl rfl (by decide +kernel) ⟨Nat.le_of_ble_eq_true rfl, Nat.le_of_ble_eq_true rfl⟩) ⟨xPre.blind, va_recv hK hP (ci := 0) (q0 := 0) rfl rfl, xPre.call hE hS (hP.sub [0, 1] rfl) (hD.sub [0, 1] (by decide) rfl) hF⟩ rfl rfl hl.1 rfl (lv_room (Nat.le_of_ble_eq_true rfl)) dL_conflicts_4 ⟨Nat.le_of_ble_eq_true rfl, Nat.le_of_ble_eq_true rfl⟩) hP hD hS hF [0, 1] [2] rfl rfl rfl (by decide) (fun E9 ce9 q9 H locs hpx_4 hP hD hS hce hcv hcl => ?_) (fun r_2 u_1 H locs hw_3 hP hD hS => ?_)
  · obtain rfl := hpx_4
    refine vx_catch (own := RL) (name := "java/util/NoSuchElementException") hown (tableOf []) ⟨0, 9, 12, 24⟩ (tableOf []) (htb.trans rfl) (fun z hz => absurd hz List.not_mem_nil) (by decide) (by decide) (hts _ xw9_7) (va_Nw.use rfl (hE.1.2.2.1 "java/util/NoSuchElementException" (by decide +kernel))) hce hcv hcl ?_
    refine lv_astore_n (lv' := [(3, .ref q9), (0, .ref h0), (1, .int p0), (2, .ref h9)]) hx hb dL_conflicts_12 rfl hl (by decide) rfl (fun ls hl => ?_)
    refine lv_iconst (v := 1) hx hb dL_conflicts_13 (by decide) ?_
    have hP9 : va_P D xCl [(h9, .inl (K 3, 1, .inr (.inl (fun _ => 0))))] H := hP.sub [0] rfl
    have hD9 : va_D A [(h9, .inl (K 3, 1, .inr (.inl (fun _ => 0))))] := hD.sub [0] (by decide) rfl
    refine W.widen (k := 1) (n := 6) (Nat.le_of_ble_eq_true rfl) (Nat.le_of_ble_eq_true rfl) ?_
    exact W.iret (v := 1) hx hb hr (fun t ht hW => ⟨⟨1, (), rfl, rfl, by rw [ht]; exact hP9, hD9⟩, hS.F ht⟩) hS.2.2 dL_conflicts_14
  · exact hw_3.elim
set_option maxHeartbeats 4000000 in
set_option maxRecDepth 100000 in
theorem c_L_wins (l : Launch) (hst : l.stackTraces = false) (D : va_G) (K : Nat → ClassId) (h0 h9 h1 h2 h3 h4 h5 h6 h7 a1 a2 a3 a4 a5 a6 : Nat) (sz : Nat) (p0 : Int32) : Met l yL_wins [.codeWith yL_wins cL_wins 4 (some .int) [(0, 9, 12, 24)]] ({ frames := 8, cells := 1, slots := 6, locals := 124 }) (xPre D K [.ref h0, .int p0, .ref h9] [(h0, .inr (0, [.ref h1, .ref h2, .ref h3, .ref h4, .ref h5, .ref h6, .ref h7])), (h1, .inr (1, [.ref a1, .ref a2, .ref a3, .ref a4, .ref a5, .ref a6, .int 0, .int 0])), (h9, .inl (K 3, 1, .inr (.inl (fun _ => 0))))] sz) (va_Qi (fun (r : Int32) (u : Unit) => r = 1) (fun u t => xW D (va_A [(h0, .inr (0, [.ref h1, .ref h2, .ref h3, .ref h4, .ref h5, .ref h6, .ref h7])), (h1, .inr (1, [.ref a1, .ref a2, .ref a3, .ref a4, .ref a5, .ref a6, .int 0, .int 0])), (h9, .inl (K 3, 1, .inr (.inl (fun _ => 0))))] sz) ((fun (_ : Unit) => [(h9, .inl (K 3, 1, .inr (.inl (fun _ => 0))))]) u) t) (va_A [(h0, .inr (0, [.ref h1, .ref h2, .ref h3, .ref h4, .ref h5, .ref h6, .ref h7])), (h1, .inr (1, [.ref a1, .ref a2, .ref a3, .ref a4, .ref a5, .ref a6, .int 0, .int 0])), (h9, .inl (K 3, 1, .inr (.inl (fun _ => 0))))] sz)) 1 6 (va_A [(h0, .inr (0, [.ref h1, .ref h2, .ref h3, .ref h4, .ref h5, .ref h6, .ref h7])), (h1, .inr (1, [.ref a1, .ref a2, .ref a3, .ref a4, .ref a5, .ref a6, .int 0, .int 0])), (h9, .inl (K 3, 1, .inr (.inl (fun _ => 0))))] sz) := by
  refine va_MetW (cc := cL_wins) (maxL := 4) (ret := (some .int)) (by decide) rfl ?_
  intro p e s m args below meth c s₁ B hml hv
  obtain ⟨rfl, hsz, hP, hD0, hE⟩ := hv
  have hx := B.exec
  have hb := B.bytes
  have hr := B.returns
  have hlocks := B.notSynchronized
  have hts := hE.1.ts ([.ref h0, .int p0, .ref h9] : List Value).toArray
  have hnt := hE.1.nt ([.ref h0, .int p0, .ref h9] : List Value).toArray
  have hK := hE.2.1
  have hown : s.vm.findClass RL = some m.cls := findClass_of_methodNamed B.named
  have htb := vx_table (x := yL_wins) B (atoms_spec (ws := [.codeWith yL_wins cL_wins 4 (some .int) [(0, 9, 12, 24)]]) B.pre _ List.mem_cons_self)
  subst hsz
  have hD := hD0.self (sz := s.heap.size)
  generalize hAe : va_A [(h0, .inr (0, [.ref h1, .ref h2, .ref h3, .ref h4, .ref h5, .ref h6, .ref h7])), (h1, .inr (1, [.ref a1, .ref a2, .ref a3, .ref a4, .ref a5, .ref a6, .int 0, .int 0])), (h9, .inl (K 3, 1, .inr (.inl (fun _ => 0))))] s.heap.size = A at hD hE ⊢
  have hA : ∀ q : Nat, s.heap.size ≤ q → A q := fun q h => by rw [← hAe]; exact Or.inr h
  have hl := lv_entry ([.ref h0, .int p0, .ref h9]) (n := 4) (Nat.le_of_ble_eq_true rfl)
  rw [lg_entry_eq]
  generalize (lg_sl ([.ref h0, .int p0, .ref h9]) ++ List.replicate (4 - (lg_sl ([.ref h0, .int p0, .ref h9])).length) Slot.unset).toArray = ls at hl ⊢
  have hl : lv_has ls 4 [(0, .ref h0), (1, .int p0), (2, .ref h9)] := hl
  generalize hH : s.heap = H at hP ⊢
  have hS : va_S A s.heap H [] := by rw [← hH]; exact va_S.rf
  refine lv_aload_n hx hb dL_wins_0 rfl (lv_at hl 2 rfl) ?_
  refine lv_iconst (v := 0) hx hb dL_wins_1 (by decide) ?_
  refine lv_aload_n hx hb dL_wins_2 rfl (lv_at hl 0 rfl) ?_
  refine lv_iload_n hx hb dL_wins_3 rfl (lv_at hl 1 rfl) ?_
  have hF := va_free (wc := [(h0, .inr (0, [.ref h1, .ref h2, .ref h3, .ref h4, .ref h5, .ref h6, .ref h7])), (h1, .inr (1, [.ref a1, .ref a2, .ref a3, .ref a4, .ref a5, .ref a6, .int 0, .int 0]))]) hD hS hA [0, 1] rfl
  refine xkx_i (px := fun E => E = "java/util/NoSuchElementException") (w1 := fun (_ : Unit) => []) (wc := [(h0, .inr (0, [.ref h1, .ref h2, .ref h3, .ref h4, .ref h5, .ref h6, .ref h7])), (h1, .inr (1, [.ref a1, .ref a2, .ref a3, .ref a4, .ref a5, .ref a6, .int 0, .int 0]))]) (wr := [(h9, .inl (K 3, 1, .inr (.inl (fun _ => 0))))]) (vx_runV (As := [.int p0]) (rest := [.int 0, .ref h9]) ⟨hx, hb, hml, hown, hts⟩ (c_X8_wins l hst D K h0 h1 h2 h3 h4 h5 h6 h7 a1 a2 a3 a4 a5 a6 H.size p0) (cwV 1 hts xg_RL_X8_wins_60 rfl rfl rfl (by decide +kernel) ⟨Nat.le_of_ble_eq_true rfl, Nat.le_of_ble_eq_true rfl⟩) ⟨xPre.blind, va_recv hK hP (ci := 0) (q0 := 0) rfl rfl, xPre.call hE hS (hP.sub [0, 1] rfl) (hD.sub [0, 1] (by decide) rfl) hF⟩ rfl rfl hl.1 rfl (lv_room (Nat.le_of_ble_eq_true rfl)) dL_wins_4 ⟨Nat.le_of_ble_eq_true rfl, Nat.le_of_ble_eq_true rfl⟩) hP hD hS hF [0, 1] [2] rfl rfl rfl (by decide) (fun E9 ce9 q9 H locs hpx_4 hP hD hS hce hcv hcl => ?_) (fun r_2 u_1 H locs hw_3 hP hD hS => ?_)
  · obtain rfl := hpx_4
    refine vx_catch (own := RL) (name := "java/util/NoSuchElementException") hown (tableOf []) ⟨0, 9, 12, 24⟩ (tableOf []) (htb.trans rfl) (fun z hz => absurd hz List.not_mem_nil) (by decide) (by decide) (hts _ xw9_7) (va_Nw.use rfl (hE.1.2.2.1 "java/util/NoSuchElementException" (by decide +kernel))) hce hcv hcl ?_
    refine lv_astore_n (lv' := [(3, .ref q9), (0, .ref h0), (1, .int p0), (2, .ref h9)]) hx hb dL_wins_12 rfl hl (by decide) rfl (fun ls hl => ?_)
    refine lv_iconst (v := 1) hx hb dL_wins_13 (by decide) ?_
    have hP9 : va_P D xCl [(h9, .inl (K 3, 1, .inr (.inl (fun _ => 0))))] H := hP.sub [0] rfl
    have hD9 : va_D A [(h9, .inl (K 3, 1, .inr (.inl (fun _ => 0))))] := hD.sub [0] (by decide) rfl
    refine W.widen (k := 1) (n := 6) (Nat.le_of_ble_eq_true rfl) (Nat.le_of_ble_eq_true rfl) ?_
    exact W.iret (v := 1) hx hb hr (fun t ht hW => ⟨⟨1, (), rfl, rfl, by rw [ht]; exact hP9, hD9⟩, hS.F ht⟩) hS.2.2 dL_wins_14
  · exact hw_3.elim
