set_option maxHeartbeats 4000000 in
set_option maxRecDepth 100000 in
theorem c_X8_isSchool (l : Launch) (D : va_G) (K : Nat → ClassId) (sz : Nat) (p0 : Int32) : Met l yX8_isSchool [.code yX8_isSchool cX8_isSchool 1 (some .boolean)] ({ frames := 0, cells := 0, slots := 0, locals := 0 }) (xPre D K [.int p0] [] sz) (va_Qi (fun (r : Int32) (u : Unit) => (p0 < 0 ∧ r = 0) ∨ (¬ p0 < 0 ∧ 6 ≤ p0 ∧ r = 0) ∨ (¬ p0 < 0 ∧ ¬ 6 ≤ p0 ∧ r = 1)) (fun u t => xW D (va_A [] sz) ((fun (_ : Unit) => []) u) t) (va_A [] sz)) 0 0 (va_A [] sz) := by
  refine Met.ofW (cc := cX8_isSchool) (maxL := 1) (ret := (some .boolean)) (by decide) rfl ?_
  intro p e s m args below meth c s₁ B hml hv
  obtain ⟨rfl, hsz, hP, hD0, hE⟩ := hv
  have hx := B.exec
  have hb := B.bytes
  have hr := B.returns
  have hlocks := B.notSynchronized
  have hts := hE.1.ts ([.int p0] : List Value).toArray
  have hnt := hE.1.nt ([.int p0] : List Value).toArray
  have hK := hE.2.1
  have hown : s.vm.findClass RX8 = some m.cls := findClass_of_methodNamed B.named
  subst hsz
  have hD := hD0.self (sz := s.heap.size)
  generalize hAe : va_A [] s.heap.size = A at hD hE ⊢
  have hA : ∀ q : Nat, s.heap.size ≤ q → A q := fun q h => by rw [← hAe]; exact Or.inr h
  have hl := lv_entry ([.int p0]) (n := 1) (Nat.le_of_ble_eq_true rfl)
  rw [lg_entry_eq]
  generalize (lg_sl ([.int p0]) ++ List.replicate (1 - (lg_sl ([.int p0])).length) Slot.unset).toArray = ls at hl ⊢
  have hl : lv_has ls 1 [(0, .int p0)] := hl
  generalize hH : s.heap = H at hP ⊢
  have hS : va_S A s.heap H [] := by rw [← hH]; exact va_S.rf
  refine lv_iload_n hx hb dX8_isSchool_0 rfl (lv_at hl 0 rfl) ?_
  refine lv_if_lt (tgt := 14) hx hb dX8_isSchool_1 (by decide) (fun c_1 => ?_) (fun c_1 => ?_)
  · refine lv_iconst (v := 0) hx hb dX8_isSchool_14 (by decide) ?_
    have hP9 : va_P D xCl [] H := hP.sub [] rfl
    have hD9 : va_D A [] := hD.sub [] (by decide) rfl
    refine W.widen (k := 0) (n := 0) (Nat.le_of_ble_eq_true rfl) (Nat.le_of_ble_eq_true rfl) ?_
    exact W.zret (ty := .boolean) (v := 0) hx hb hr (by first | rfl | decide) (fun t ht hW => ⟨⟨0, (), rfl, Or.inl ⟨c_1, rfl⟩, by rw [ht]; exact hP9, hD9⟩, hS.F ht⟩) hS.2.2 dX8_isSchool_15
  · refine lv_iload_n hx hb dX8_isSchool_4 rfl (lv_at hl 0 rfl) ?_
    refine lv_bipush (v := 6) hx hb dX8_isSchool_5 (by decide) ?_
    refine lv_icmp_ge (tgt := 14) hx hb dX8_isSchool_7 (by decide) (fun c_2 => ?_) (fun c_2 => ?_)
    · refine lv_iconst (v := 0) hx hb dX8_isSchool_14 (by decide) ?_
      have hP9 : va_P D xCl [] H := hP.sub [] rfl
      have hD9 : va_D A [] := hD.sub [] (by decide) rfl
      refine W.widen (k := 0) (n := 0) (Nat.le_of_ble_eq_true rfl) (Nat.le_of_ble_eq_true rfl) ?_
      exact W.zret (ty := .boolean) (v := 0) hx hb hr (by first | rfl | decide) (fun t ht hW => ⟨⟨0, (), rfl, Or.inr (Or.inl ⟨c_1, c_2, rfl⟩), by rw [ht]; exact hP9, hD9⟩, hS.F ht⟩) hS.2.2 dX8_isSchool_15
    · refine lv_iconst (v := 1) hx hb dX8_isSchool_10 (by decide) ?_
      refine lv_goto (tgt := 15) hx hb dX8_isSchool_11 (by decide) ?_
      have hP9 : va_P D xCl [] H := hP.sub [] rfl
      have hD9 : va_D A [] := hD.sub [] (by decide) rfl
      refine W.widen (k := 0) (n := 0) (Nat.le_of_ble_eq_true rfl) (Nat.le_of_ble_eq_true rfl) ?_
      exact W.zret (ty := .boolean) (v := 1) hx hb hr (by first | rfl | decide) (fun t ht hW => ⟨⟨1, (), rfl, Or.inr (Or.inr ⟨c_1, c_2, rfl⟩), by rw [ht]; exact hP9, hD9⟩, hS.F ht⟩) hS.2.2 dX8_isSchool_15
set_option maxHeartbeats 4000000 in
set_option maxRecDepth 100000 in
theorem c_X5_enterTeam (l : Launch) (D : va_G) (K : Nat → ClassId) (h1 a1 a2 a3 a4 a5 a6 : Nat) (sz : Nat) (p0 : Int32) : Met l yX5_enterTeam [.code yX5_enterTeam cX5_enterTeam 3 (some .int)] ({ frames := 0, cells := 0, slots := 0, locals := 0 }) (xPre D K [.ref h1, .int p0] [(h1, .inr (1, [.ref a1, .ref a2, .ref a3, .ref a4, .ref a5, .ref a6, .int 0, .int 0])), (a1, .inl (K 0, 12, .inl (fun _ => 0))), (a2, .inl (K 1, 12, .inl (fun _ => 0))), (a3, .inl (K 0, 12, .inl (fun _ => 0)))] sz) (va_Qi (fun (r : Int32) (u : Unit) => r = 0) (fun u t => xW D (va_A [(h1, .inr (1, [.ref a1, .ref a2, .ref a3, .ref a4, .ref a5, .ref a6, .int 0, .int 0])), (a1, .inl (K 0, 12, .inl (fun _ => 0))), (a2, .inl (K 1, 12, .inl (fun _ => 0))), (a3, .inl (K 0, 12, .inl (fun _ => 0)))] sz) ((fun (_ : Unit) => []) u) t) (va_A [(h1, .inr (1, [.ref a1, .ref a2, .ref a3, .ref a4, .ref a5, .ref a6, .int 0, .int 0])), (a1, .inl (K 0, 12, .inl (fun _ => 0))), (a2, .inl (K 1, 12, .inl (fun _ => 0))), (a3, .inl (K 0, 12, .inl (fun _ => 0)))] sz)) 0 0 (va_A [(h1, .inr (1, [.ref a1, .ref a2, .ref a3, .ref a4, .ref a5, .ref a6, .int 0, .int 0])), (a1, .inl (K 0, 12, .inl (fun _ => 0))), (a2, .inl (K 1, 12, .inl (fun _ => 0))), (a3, .inl (K 0, 12, .inl (fun _ => 0)))] sz) := by
  refine Met.ofW (cc := cX5_enterTeam) (maxL := 3) (ret := (some .int)) (by decide) rfl ?_
  intro p e s m args below meth c s₁ B hml hv
  obtain ⟨rfl, hsz, hP, hD0, hE⟩ := hv
  have hx := B.exec
  have hb := B.bytes
  have hr := B.returns
  have hlocks := B.notSynchronized
  have hts := hE.1.ts ([.ref h1, .int p0] : List Value).toArray
  have hnt := hE.1.nt ([.ref h1, .int p0] : List Value).toArray
  have hK := hE.2.1
  have hown : s.vm.findClass RX5 = some m.cls := findClass_of_methodNamed B.named
  subst hsz
  have hD := hD0.self (sz := s.heap.size)
  generalize hAe : va_A [(h1, .inr (1, [.ref a1, .ref a2, .ref a3, .ref a4, .ref a5, .ref a6, .int 0, .int 0])), (a1, .inl (K 0, 12, .inl (fun _ => 0))), (a2, .inl (K 1, 12, .inl (fun _ => 0))), (a3, .inl (K 0, 12, .inl (fun _ => 0)))] s.heap.size = A at hD hE ⊢
  have hA : ∀ q : Nat, s.heap.size ≤ q → A q := fun q h => by rw [← hAe]; exact Or.inr h
  have hl := lv_entry ([.ref h1, .int p0]) (n := 3) (Nat.le_of_ble_eq_true rfl)
  rw [lg_entry_eq]
  generalize (lg_sl ([.ref h1, .int p0]) ++ List.replicate (3 - (lg_sl ([.ref h1, .int p0])).length) Slot.unset).toArray = ls at hl ⊢
  have hl : lv_has ls 3 [(0, .ref h1), (1, .int p0)] := hl
  generalize hH : s.heap = H at hP ⊢
  have hS : va_S A s.heap H [] := by rw [← hH]; exact va_S.rf
  refine lv_aload_n hx hb dX5_enterTeam_0 rfl (lv_at hl 0 rfl) ?_
  refine va_get (D := D) (ci := 1) (v := .int 0) (C := RX5) (T := TX5) (N := 8) hx hb hts inlX5 hown hK hP 0 rfl rfl 6 (by decide) (hts _ xw7_21) (fun _ h9 => h9) rfl dX5_enterTeam_1 ?_
  refine lv_istore_n (lv' := [(2, .int 0), (0, .ref h1), (1, .int p0)]) hx hb dX5_enterTeam_4 rfl hl (by decide) rfl (fun ls hl => ?_)
  refine lv_iload_n hx hb dX5_enterTeam_5 rfl (lv_at hl 0 rfl) ?_
  refine lv_bipush (v := 12) hx hb dX5_enterTeam_6 (by decide) ?_
  refine lv_icmp_ge (tgt := 42) hx hb dX5_enterTeam_8 (by decide) (fun c_1 => absurd c_1 (by decide)) (fun _ => ?_)
  refine lv_aload_n hx hb dX5_enterTeam_11 rfl (lv_at hl 1 rfl) ?_
  refine va_get (D := D) (ci := 1) (v := .ref a1) (C := RX5) (T := TX5) (N := 8) hx hb hts inlX5 hown hK hP 0 rfl rfl 0 (by decide) (hts _ xw2_22) (fun _ h9 => h9) rfl dX5_enterTeam_12 ?_
  refine lv_iload_n hx hb dX5_enterTeam_15 rfl (lv_at hl 0 rfl) ?_
  refine lv_iload_n hx hb dX5_enterTeam_16 rfl (lv_at hl 2 rfl) ?_
  refine va_iast hx hb hK hP hD hS 1 0 rfl rfl (by unfold vp_in; decide) dX5_enterTeam_17 (fun H locs hP hD hS => ?_)
  have hP : va_P D xCl [(h1, .inr (1, [.ref a1, .ref a2, .ref a3, .ref a4, .ref a5, .ref a6, .int 0, .int 0])), (a1, .inl (K 0, 12, .inl (upd (fun _ => 0) ((0 : Int32).toNatClampNeg) p0))), (a2, .inl (K 1, 12, .inl (fun _ => 0))), (a3, .inl (K 0, 12, .inl (fun _ => 0)))] H := hP
  have hD : va_D A [(h1, .inr (1, [.ref a1, .ref a2, .ref a3, .ref a4, .ref a5, .ref a6, .int 0, .int 0])), (a1, .inl (K 0, 12, .inl (upd (fun _ => 0) ((0 : Int32).toNatClampNeg) p0))), (a2, .inl (K 1, 12, .inl (fun _ => 0))), (a3, .inl (K 0, 12, .inl (fun _ => 0)))] := hD
  refine lv_aload_n hx hb dX5_enterTeam_18 rfl (lv_at hl 1 rfl) ?_
  refine va_get (D := D) (ci := 1) (v := .ref a2) (C := RX5) (T := TX5) (N := 8) hx hb hts inlX5 hown hK hP 0 rfl rfl 1 (by decide) (hts _ xw3_0) (fun _ h9 => h9) rfl dX5_enterTeam_19 ?_
  refine lv_iload_n hx hb dX5_enterTeam_22 rfl (lv_at hl 0 rfl) ?_
  refine lv_iconst (v := 1) hx hb dX5_enterTeam_23 (by decide) ?_
  refine va_zast hx hb hK hP hD hS 2 1 rfl rfl (by unfold vp_in; decide) dX5_enterTeam_24 (fun H locs hP hD hS => ?_)
  have hP : va_P D xCl [(h1, .inr (1, [.ref a1, .ref a2, .ref a3, .ref a4, .ref a5, .ref a6, .int 0, .int 0])), (a1, .inl (K 0, 12, .inl (upd (fun _ => 0) ((0 : Int32).toNatClampNeg) p0))), (a2, .inl (K 1, 12, .inl (upd (fun _ => 0) ((0 : Int32).toNatClampNeg) (vp_nar .boolean 1)))), (a3, .inl (K 0, 12, .inl (fun _ => 0)))] H := hP
  have hD : va_D A [(h1, .inr (1, [.ref a1, .ref a2, .ref a3, .ref a4, .ref a5, .ref a6, .int 0, .int 0])), (a1, .inl (K 0, 12, .inl (upd (fun _ => 0) ((0 : Int32).toNatClampNeg) p0))), (a2, .inl (K 1, 12, .inl (upd (fun _ => 0) ((0 : Int32).toNatClampNeg) (vp_nar .boolean 1)))), (a3, .inl (K 0, 12, .inl (fun _ => 0)))] := hD
  refine lv_aload_n hx hb dX5_enterTeam_25 rfl (lv_at hl 1 rfl) ?_
  refine va_get (D := D) (ci := 1) (v := .ref a3) (C := RX5) (T := TX5) (N := 8) hx hb hts inlX5 hown hK hP 0 rfl rfl 2 (by decide) (hts _ xw3_1) (fun _ h9 => h9) rfl dX5_enterTeam_26 ?_
  refine lv_iload_n hx hb dX5_enterTeam_29 rfl (lv_at hl 0 rfl) ?_
  refine lv_iconst (v := (-1)) hx hb dX5_enterTeam_30 (by decide) ?_
  refine va_iast hx hb hK hP hD hS 3 0 rfl rfl (by unfold vp_in; decide) dX5_enterTeam_31 (fun H locs hP hD hS => ?_)
  have hP : va_P D xCl [(h1, .inr (1, [.ref a1, .ref a2, .ref a3, .ref a4, .ref a5, .ref a6, .int 0, .int 0])), (a1, .inl (K 0, 12, .inl (upd (fun _ => 0) ((0 : Int32).toNatClampNeg) p0))), (a2, .inl (K 1, 12, .inl (upd (fun _ => 0) ((0 : Int32).toNatClampNeg) (vp_nar .boolean 1)))), (a3, .inl (K 0, 12, .inl (upd (fun _ => 0) ((0 : Int32).toNatClampNeg) (-1))))] H := hP
  have hD : va_D A [(h1, .inr (1, [.ref a1, .ref a2, .ref a3, .ref a4, .ref a5, .ref a6, .int 0, .int 0])), (a1, .inl (K 0, 12, .inl (upd (fun _ => 0) ((0 : Int32).toNatClampNeg) p0))), (a2, .inl (K 1, 12, .inl (upd (fun _ => 0) ((0 : Int32).toNatClampNeg) (vp_nar .boolean 1)))), (a3, .inl (K 0, 12, .inl (upd (fun _ => 0) ((0 : Int32).toNatClampNeg) (-1))))] := hD
  refine lv_aload_n hx hb dX5_enterTeam_32 rfl (lv_at hl 1 rfl) ?_
  refine lv_dup hx hb dX5_enterTeam_33 rfl ?_
  refine va_get (D := D) (ci := 1) (v := .int 0) (C := RX5) (T := TX5) (N := 8) hx hb hts inlX5 hown hK hP 0 rfl rfl 6 (by decide) (hts _ xw7_21) (fun _ h9 => h9) rfl dX5_enterTeam_34 ?_
  refine lv_iconst (v := 1) hx hb dX5_enterTeam_37 (by decide) ?_
  refine lv_iadd hx hb dX5_enterTeam_38 ?_
  refine lv_topi (fun v_2 e_3 => ?_)
  obtain rfl : v_2 = 1 := e_3.trans (by decide)
  refine va_put (D := D) (ci := 1) (v := .int 1) (ty := .int) (C := RX5) (T := TX5) (N := 8) hx hb hts inlX5 tyX5 tyX5_ok nmX5 hown hK hP hD hS 0 rfl rfl 6 (by decide) (hts _ xw7_21) (fun _ h9 => h9) rfl (by decide +kernel) rfl rfl (Nat.le_of_ble_eq_true rfl) dX5_enterTeam_39 (fun H locs hP hD hS => ?_)
  have hP : va_P D xCl [(h1, .inr (1, [.ref a1, .ref a2, .ref a3, .ref a4, .ref a5, .ref a6, .int 1, .int 0])), (a1, .inl (K 0, 12, .inl (upd (fun _ => 0) ((0 : Int32).toNatClampNeg) p0))), (a2, .inl (K 1, 12, .inl (upd (fun _ => 0) ((0 : Int32).toNatClampNeg) (vp_nar .boolean 1)))), (a3, .inl (K 0, 12, .inl (upd (fun _ => 0) ((0 : Int32).toNatClampNeg) (-1))))] H := hP
  have hD : va_D A [(h1, .inr (1, [.ref a1, .ref a2, .ref a3, .ref a4, .ref a5, .ref a6, .int 1, .int 0])), (a1, .inl (K 0, 12, .inl (upd (fun _ => 0) ((0 : Int32).toNatClampNeg) p0))), (a2, .inl (K 1, 12, .inl (upd (fun _ => 0) ((0 : Int32).toNatClampNeg) (vp_nar .boolean 1)))), (a3, .inl (K 0, 12, .inl (upd (fun _ => 0) ((0 : Int32).toNatClampNeg) (-1))))] := hD
  refine lv_iload_n hx hb dX5_enterTeam_42 rfl (lv_at hl 0 rfl) ?_
  have hP9 : va_P D xCl [] H := hP.sub [] rfl
  have hD9 : va_D A [] := hD.sub [] (by decide) rfl
  refine W.widen (k := 0) (n := 0) (Nat.le_of_ble_eq_true rfl) (Nat.le_of_ble_eq_true rfl) ?_
  exact W.iret (v := 0) hx hb hr (fun t ht hW => ⟨⟨0, (), rfl, rfl, by rw [ht]; exact hP9, hD9⟩, hS.F ht⟩) hS.2.2 dX5_enterTeam_43
set_option maxHeartbeats 4000000 in
set_option maxRecDepth 100000 in
theorem c_X8_addTeam (l : Launch) (hst : l.stackTraces = false) (D : va_G) (K : Nat → ClassId) (h0 h1 h2 h3 h4 h5 h6 h7 a1 a2 a3 a4 a5 a6 : Nat) (sz : Nat) (p0 : Int32) : vx_Met l yX8_addTeam [.code yX8_addTeam cX8_addTeam 2 (some .int)] ({ frames := 6, cells := 1, slots := 6, locals := 82 }) (xPre D K [.ref h0, .int p0] [(h0, .inr (0, [.ref h1, .ref h2, .ref h3, .ref h4, .ref h5, .ref h6, .ref h7])), (h1, .inr (1, [.ref a1, .ref a2, .ref a3, .ref a4, .ref a5, .ref a6, .int 0, .int 0])), (a1, .inl (K 0, 12, .inl (fun _ => 0))), (a2, .inl (K 1, 12, .inl (fun _ => 0))), (a3, .inl (K 0, 12, .inl (fun _ => 0)))] sz) (va_Qi (fun (r : Int32) (u : Unit) => ¬ p0 < 0 ∧ ¬ 6 ≤ p0 ∧ r = 0) (fun u t => xW D (va_A [(h0, .inr (0, [.ref h1, .ref h2, .ref h3, .ref h4, .ref h5, .ref h6, .ref h7])), (h1, .inr (1, [.ref a1, .ref a2, .ref a3, .ref a4, .ref a5, .ref a6, .int 0, .int 0])), (a1, .inl (K 0, 12, .inl (fun _ => 0))), (a2, .inl (K 1, 12, .inl (fun _ => 0))), (a3, .inl (K 0, 12, .inl (fun _ => 0)))] sz) ((fun (_ : Unit) => []) u) t) (va_A [(h0, .inr (0, [.ref h1, .ref h2, .ref h3, .ref h4, .ref h5, .ref h6, .ref h7])), (h1, .inr (1, [.ref a1, .ref a2, .ref a3, .ref a4, .ref a5, .ref a6, .int 0, .int 0])), (a1, .inl (K 0, 12, .inl (fun _ => 0))), (a2, .inl (K 1, 12, .inl (fun _ => 0))), (a3, .inl (K 0, 12, .inl (fun _ => 0)))] sz)) (vx_X (S := Unit) (fun _ => True) (fun E _ _ => (fun E => (p0 < 0 ∧ E = "java/lang/IllegalArgumentException") ∨ (¬ p0 < 0 ∧ 6 ≤ p0 ∧ E = "java/lang/IllegalArgumentException")) E) (va_A [(h0, .inr (0, [.ref h1, .ref h2, .ref h3, .ref h4, .ref h5, .ref h6, .ref h7])), (h1, .inr (1, [.ref a1, .ref a2, .ref a3, .ref a4, .ref a5, .ref a6, .int 0, .int 0])), (a1, .inl (K 0, 12, .inl (fun _ => 0))), (a2, .inl (K 1, 12, .inl (fun _ => 0))), (a3, .inl (K 0, 12, .inl (fun _ => 0)))] sz)) 1 6 (va_A [(h0, .inr (0, [.ref h1, .ref h2, .ref h3, .ref h4, .ref h5, .ref h6, .ref h7])), (h1, .inr (1, [.ref a1, .ref a2, .ref a3, .ref a4, .ref a5, .ref a6, .int 0, .int 0])), (a1, .inl (K 0, 12, .inl (fun _ => 0))), (a2, .inl (K 1, 12, .inl (fun _ => 0))), (a3, .inl (K 0, 12, .inl (fun _ => 0)))] sz) := by
  refine vx_ofW (cc := cX8_addTeam) (maxL := 2) (ret := (some .int)) (by decide) rfl ?_
  intro p e s m args below meth c s₁ B hml hte hv
  obtain ⟨rfl, hsz, hP, hD0, hE⟩ := hv
  have hx := B.exec
  have hb := B.bytes
  have hr := B.returns
  have hlocks := B.notSynchronized
  have hts := hE.1.ts ([.ref h0, .int p0] : List Value).toArray
  have hnt := hE.1.nt ([.ref h0, .int p0] : List Value).toArray
  have hK := hE.2.1
  have hown : s.vm.findClass RX8 = some m.cls := findClass_of_methodNamed B.named
  subst hsz
  have hD := hD0.self (sz := s.heap.size)
  generalize hAe : va_A [(h0, .inr (0, [.ref h1, .ref h2, .ref h3, .ref h4, .ref h5, .ref h6, .ref h7])), (h1, .inr (1, [.ref a1, .ref a2, .ref a3, .ref a4, .ref a5, .ref a6, .int 0, .int 0])), (a1, .inl (K 0, 12, .inl (fun _ => 0))), (a2, .inl (K 1, 12, .inl (fun _ => 0))), (a3, .inl (K 0, 12, .inl (fun _ => 0)))] s.heap.size = A at hD hE ⊢
  have hA : ∀ q : Nat, s.heap.size ≤ q → A q := fun q h => by rw [← hAe]; exact Or.inr h
  have hl := lv_entry ([.ref h0, .int p0]) (n := 2) (Nat.le_of_ble_eq_true rfl)
  rw [lg_entry_eq]
  generalize (lg_sl ([.ref h0, .int p0]) ++ List.replicate (2 - (lg_sl ([.ref h0, .int p0])).length) Slot.unset).toArray = ls at hl ⊢
  have hl : lv_has ls 2 [(0, .ref h0), (1, .int p0)] := hl
  generalize hH : s.heap = H at hP ⊢
  have hS : va_S A s.heap H [] := by rw [← hH]; exact va_S.rf
  refine lv_iload_n hx hb dX8_addTeam_0 rfl (lv_at hl 1 rfl) ?_
  have hF := va_free (wc := []) hD hS hA [] rfl
  refine xk_i (w1 := fun (_ : Unit) => []) (wc := []) (wr := [(h0, .inr (0, [.ref h1, .ref h2, .ref h3, .ref h4, .ref h5, .ref h6, .ref h7])), (h1, .inr (1, [.ref a1, .ref a2, .ref a3, .ref a4, .ref a5, .ref a6, .int 0, .int 0])), (a1, .inl (K 0, 12, .inl (fun _ => 0))), (a2, .inl (K 1, 12, .inl (fun _ => 0))), (a3, .inl (K 0, 12, .inl (fun _ => 0)))]) (va_runS (As := [.int p0]) (rest := []) ⟨hx, hb, hml, hown, hts⟩ (c_X8_isSchool l D K H.size p0) (va_cwS 1 hts xg_RX8_X8_isSchool_64 rfl rfl rfl (by decide +kernel) ⟨Nat.le_of_ble_eq_true rfl, Nat.le_of_ble_eq_true rfl⟩) ⟨xPre.blind, xPre.call hE hS (hP.sub [] rfl) (hD.sub [] (by decide) rfl) hF⟩ rfl rfl hl.1 rfl (lv_room (Nat.le_of_ble_eq_true rfl)) dX8_addTeam_1 ⟨Nat.le_of_ble_eq_true rfl, Nat.le_of_ble_eq_true rfl⟩) hP hD hS hF [] [0, 1, 2, 3, 4] rfl rfl rfl (by decide) (fun r_2 u_1 H locs hw_3 hP hD hS => ?_)
  rcases hw_3 with ⟨c_4, rfl⟩ | ⟨c_5, c_6, rfl⟩ | ⟨c_7, c_8, rfl⟩
  · have hP : va_P D xCl [(h0, .inr (0, [.ref h1, .ref h2, .ref h3, .ref h4, .ref h5, .ref h6, .ref h7])), (h1, .inr (1, [.ref a1, .ref a2, .ref a3, .ref a4, .ref a5, .ref a6, .int 0, .int 0])), (a1, .inl (K 0, 12, .inl (fun _ => 0))), (a2, .inl (K 1, 12, .inl (fun _ => 0))), (a3, .inl (K 0, 12, .inl (fun _ => 0)))] H := hP
    have hD : va_D A [(h0, .inr (0, [.ref h1, .ref h2, .ref h3, .ref h4, .ref h5, .ref h6, .ref h7])), (h1, .inr (1, [.ref a1, .ref a2, .ref a3, .ref a4, .ref a5, .ref a6, .int 0, .int 0])), (a1, .inl (K 0, 12, .inl (fun _ => 0))), (a2, .inl (K 1, 12, .inl (fun _ => 0))), (a3, .inl (K 0, 12, .inl (fun _ => 0)))] := hD
    refine lv_if_ne (tgt := 17) hx hb dX8_addTeam_4 (by decide) (fun c_9 => absurd (by decide) c_9) (fun _ => ?_)
    obtain ⟨sa_10, hs_11⟩ := hE.1.2.2.2.2.1 (70, "the school is out of range") (List.mem_of_getElem? (i := 0) rfl)
    exact vx_throwS (cls := "java/lang/IllegalArgumentException") (names := ["java/lang/RuntimeException", "java/lang/Exception"]) (ic := 72) hx hb hst hown (by decide +kernel) (by decide +kernel) (hts _ xw7_10) (hts _ xw7_11) hs_11 (xat_IAE hE.1 _) xot_IAE hE.2.2.1 hE.2.2.2 hS (hl.1.trans hml.symm) dX8_addTeam_7 dX8_addTeam_10 dX8_addTeam_11 dX8_addTeam_13 dX8_addTeam_16 (fun x hx9 => (hte x hx9).elim) (by decide) (Nat.le_of_ble_eq_true rfl) (Nat.le_of_ble_eq_true rfl) (Nat.le_of_ble_eq_true rfl) hlocks (fun t hW h1 h2 => ⟨(), trivial, Or.inl ⟨c_4, rfl⟩, Nat.le_trans hS.1 h1, fun q hq hn => (h2 q (Nat.lt_of_lt_of_le hq hS.1)).trans (hS.2.1 q hq hn)⟩) hS.2.2 (Nat.le_of_ble_eq_true rfl) (Nat.le_of_ble_eq_true rfl)
  · have hP : va_P D xCl [(h0, .inr (0, [.ref h1, .ref h2, .ref h3, .ref h4, .ref h5, .ref h6, .ref h7])), (h1, .inr (1, [.ref a1, .ref a2, .ref a3, .ref a4, .ref a5, .ref a6, .int 0, .int 0])), (a1, .inl (K 0, 12, .inl (fun _ => 0))), (a2, .inl (K 1, 12, .inl (fun _ => 0))), (a3, .inl (K 0, 12, .inl (fun _ => 0)))] H := hP
    have hD : va_D A [(h0, .inr (0, [.ref h1, .ref h2, .ref h3, .ref h4, .ref h5, .ref h6, .ref h7])), (h1, .inr (1, [.ref a1, .ref a2, .ref a3, .ref a4, .ref a5, .ref a6, .int 0, .int 0])), (a1, .inl (K 0, 12, .inl (fun _ => 0))), (a2, .inl (K 1, 12, .inl (fun _ => 0))), (a3, .inl (K 0, 12, .inl (fun _ => 0)))] := hD
    refine lv_if_ne (tgt := 17) hx hb dX8_addTeam_4 (by decide) (fun c_12 => absurd (by decide) c_12) (fun _ => ?_)
    obtain ⟨sa_13, hs_14⟩ := hE.1.2.2.2.2.1 (70, "the school is out of range") (List.mem_of_getElem? (i := 0) rfl)
    exact vx_throwS (cls := "java/lang/IllegalArgumentException") (names := ["java/lang/RuntimeException", "java/lang/Exception"]) (ic := 72) hx hb hst hown (by decide +kernel) (by decide +kernel) (hts _ xw7_10) (hts _ xw7_11) hs_14 (xat_IAE hE.1 _) xot_IAE hE.2.2.1 hE.2.2.2 hS (hl.1.trans hml.symm) dX8_addTeam_7 dX8_addTeam_10 dX8_addTeam_11 dX8_addTeam_13 dX8_addTeam_16 (fun x hx9 => (hte x hx9).elim) (by decide) (Nat.le_of_ble_eq_true rfl) (Nat.le_of_ble_eq_true rfl) (Nat.le_of_ble_eq_true rfl) hlocks (fun t hW h1 h2 => ⟨(), trivial, Or.inr ⟨c_5, c_6, rfl⟩, Nat.le_trans hS.1 h1, fun q hq hn => (h2 q (Nat.lt_of_lt_of_le hq hS.1)).trans (hS.2.1 q hq hn)⟩) hS.2.2 (Nat.le_of_ble_eq_true rfl) (Nat.le_of_ble_eq_true rfl)
  · have hP : va_P D xCl [(h0, .inr (0, [.ref h1, .ref h2, .ref h3, .ref h4, .ref h5, .ref h6, .ref h7])), (h1, .inr (1, [.ref a1, .ref a2, .ref a3, .ref a4, .ref a5, .ref a6, .int 0, .int 0])), (a1, .inl (K 0, 12, .inl (fun _ => 0))), (a2, .inl (K 1, 12, .inl (fun _ => 0))), (a3, .inl (K 0, 12, .inl (fun _ => 0)))] H := hP
    have hD : va_D A [(h0, .inr (0, [.ref h1, .ref h2, .ref h3, .ref h4, .ref h5, .ref h6, .ref h7])), (h1, .inr (1, [.ref a1, .ref a2, .ref a3, .ref a4, .ref a5, .ref a6, .int 0, .int 0])), (a1, .inl (K 0, 12, .inl (fun _ => 0))), (a2, .inl (K 1, 12, .inl (fun _ => 0))), (a3, .inl (K 0, 12, .inl (fun _ => 0)))] := hD
    refine lv_if_ne (tgt := 17) hx hb dX8_addTeam_4 (by decide) (fun _ => ?_) (fun c_15 => absurd c_15 (by decide))
    refine lv_aload_n hx hb dX8_addTeam_17 rfl (lv_at hl 0 rfl) ?_
    refine va_get (D := D) (ci := 0) (v := .ref h1) (C := RX8) (T := TX8) (N := 7) hx hb hts inlX8 hown hK hP 0 rfl rfl 0 (by decide) (hts _ xw1_17) (fun _ h9 => h9) rfl dX8_addTeam_18 ?_
    refine va_getN (D := D) (ci := 1) (v := .int 0) (C := RX5) (T := TX5) (N := 8) hx hb hts inlX5 hown hK hP 1 rfl rfl 6 (by decide) (hnt _ xn8) (fun _ h9 => h9) rfl dX8_addTeam_21 ?_
    refine lv_bipush (v := 12) hx hb dX8_addTeam_24 (by decide) ?_
    refine lv_icmp_lt (tgt := 39) hx hb dX8_addTeam_26 (by decide) (fun _ => ?_) (fun c_16 => absurd (by decide) c_16)
    refine lv_aload_n hx hb dX8_addTeam_39 rfl (lv_at hl 0 rfl) ?_
    refine va_get (D := D) (ci := 0) (v := .ref h1) (C := RX8) (T := TX8) (N := 7) hx hb hts inlX8 hown hK hP 0 rfl rfl 0 (by decide) (hts _ xw1_17) (fun _ h9 => h9) rfl dX8_addTeam_40 ?_
    refine lv_iload_n hx hb dX8_addTeam_43 rfl (lv_at hl 1 rfl) ?_
    have hF := va_free (wc := [(h1, .inr (1, [.ref a1, .ref a2, .ref a3, .ref a4, .ref a5, .ref a6, .int 0, .int 0])), (a1, .inl (K 0, 12, .inl (fun _ => 0))), (a2, .inl (K 1, 12, .inl (fun _ => 0))), (a3, .inl (K 0, 12, .inl (fun _ => 0)))]) hD hS hA [1, 2, 3, 4] rfl
    refine xk_i (w1 := fun (_ : Unit) => []) (wc := [(h1, .inr (1, [.ref a1, .ref a2, .ref a3, .ref a4, .ref a5, .ref a6, .int 0, .int 0])), (a1, .inl (K 0, 12, .inl (fun _ => 0))), (a2, .inl (K 1, 12, .inl (fun _ => 0))), (a3, .inl (K 0, 12, .inl (fun _ => 0)))]) (wr := [(h0, .inr (0, [.ref h1, .ref h2, .ref h3, .ref h4, .ref h5, .ref h6, .ref h7]))]) (va_runV (As := [.int p0]) (rest := []) ⟨hx, hb, hml, hown, hts⟩ (c_X5_enterTeam l D K h1 a1 a2 a3 a4 a5 a6 H.size p0) (cwV 1 hts xg_RX8_X5_enterTeam_84 rfl rfl rfl (by decide +kernel) ⟨Nat.le_of_ble_eq_true rfl, Nat.le_of_ble_eq_true rfl⟩) ⟨xPre.blind, va_recv hK hP (ci := 1) (q0 := 1) rfl rfl, xPre.call hE hS (hP.sub [1, 2, 3, 4] rfl) (hD.sub [1, 2, 3, 4] (by decide) rfl) hF⟩ rfl rfl hl.1 rfl (lv_room (Nat.le_of_ble_eq_true rfl)) dX8_addTeam_44 ⟨Nat.le_of_ble_eq_true rfl, Nat.le_of_ble_eq_true rfl⟩) hP hD hS hF [1, 2, 3, 4] [0] rfl rfl rfl (by decide) (fun r_18 u_17 H locs hw_19 hP hD hS => ?_)
    obtain rfl := hw_19
    have hP : va_P D xCl [(h0, .inr (0, [.ref h1, .ref h2, .ref h3, .ref h4, .ref h5, .ref h6, .ref h7]))] H := hP
    have hD : va_D A [(h0, .inr (0, [.ref h1, .ref h2, .ref h3, .ref h4, .ref h5, .ref h6, .ref h7]))] := hD
    have hP9 : va_P D xCl [] H := hP.sub [] rfl
    have hD9 : va_D A [] := hD.sub [] (by decide) rfl
    refine W.widen (k := 1) (n := 6) (Nat.le_of_ble_eq_true rfl) (Nat.le_of_ble_eq_true rfl) ?_
    refine vx_ret ?_
    exact W.iret (v := 0) hx hb hr (fun t ht hW => ⟨⟨0, (), rfl, ⟨c_7, c_8, rfl⟩, by rw [ht]; exact hP9, hD9⟩, hS.F ht⟩) hS.2.2 dX8_addTeam_47
set_option maxHeartbeats 4000000 in
set_option maxRecDepth 100000 in
theorem c_X5_enterJudge (l : Launch) (D : va_G) (K : Nat → ClassId) (h1 a1 a2 a3 a4 a5 a6 : Nat) (sz : Nat) (p0 p1 : Int32) : Met l yX5_enterJudge [.code yX5_enterJudge cX5_enterJudge 4 (some .int)] ({ frames := 0, cells := 0, slots := 0, locals := 0 }) (xPre D K [.ref h1, .int p0, .int p1] [(h1, .inr (1, [.ref a1, .ref a2, .ref a3, .ref a4, .ref a5, .ref a6, .int 0, .int 0])), (a4, .inl (K 0, 8, .inl (fun _ => 0))), (a5, .inl (K 0, 8, .inl (fun _ => 0)))] sz) (va_Qi (fun (r : Int32) (u : Unit) => r = 0) (fun u t => xW D (va_A [(h1, .inr (1, [.ref a1, .ref a2, .ref a3, .ref a4, .ref a5, .ref a6, .int 0, .int 0])), (a4, .inl (K 0, 8, .inl (fun _ => 0))), (a5, .inl (K 0, 8, .inl (fun _ => 0)))] sz) ((fun (_ : Unit) => []) u) t) (va_A [(h1, .inr (1, [.ref a1, .ref a2, .ref a3, .ref a4, .ref a5, .ref a6, .int 0, .int 0])), (a4, .inl (K 0, 8, .inl (fun _ => 0))), (a5, .inl (K 0, 8, .inl (fun _ => 0)))] sz)) 0 0 (va_A [(h1, .inr (1, [.ref a1, .ref a2, .ref a3, .ref a4, .ref a5, .ref a6, .int 0, .int 0])), (a4, .inl (K 0, 8, .inl (fun _ => 0))), (a5, .inl (K 0, 8, .inl (fun _ => 0)))] sz) := by
  refine Met.ofW (cc := cX5_enterJudge) (maxL := 4) (ret := (some .int)) (by decide) rfl ?_
  intro p e s m args below meth c s₁ B hml hv
  obtain ⟨rfl, hsz, hP, hD0, hE⟩ := hv
  have hx := B.exec
  have hb := B.bytes
  have hr := B.returns
  have hlocks := B.notSynchronized
  have hts := hE.1.ts ([.ref h1, .int p0, .int p1] : List Value).toArray
  have hnt := hE.1.nt ([.ref h1, .int p0, .int p1] : List Value).toArray
  have hK := hE.2.1
  have hown : s.vm.findClass RX5 = some m.cls := findClass_of_methodNamed B.named
  subst hsz
  have hD := hD0.self (sz := s.heap.size)
  generalize hAe : va_A [(h1, .inr (1, [.ref a1, .ref a2, .ref a3, .ref a4, .ref a5, .ref a6, .int 0, .int 0])), (a4, .inl (K 0, 8, .inl (fun _ => 0))), (a5, .inl (K 0, 8, .inl (fun _ => 0)))] s.heap.size = A at hD hE ⊢
  have hA : ∀ q : Nat, s.heap.size ≤ q → A q := fun q h => by rw [← hAe]; exact Or.inr h
  have hl := lv_entry ([.ref h1, .int p0, .int p1]) (n := 4) (Nat.le_of_ble_eq_true rfl)
  rw [lg_entry_eq]
  generalize (lg_sl ([.ref h1, .int p0, .int p1]) ++ List.replicate (4 - (lg_sl ([.ref h1, .int p0, .int p1])).length) Slot.unset).toArray = ls at hl ⊢
  have hl : lv_has ls 4 [(0, .ref h1), (1, .int p0), (2, .int p1)] := hl
  generalize hH : s.heap = H at hP ⊢
  have hS : va_S A s.heap H [] := by rw [← hH]; exact va_S.rf
  refine lv_aload_n hx hb dX5_enterJudge_0 rfl (lv_at hl 0 rfl) ?_
  refine va_get (D := D) (ci := 1) (v := .int 0) (C := RX5) (T := TX5) (N := 8) hx hb hts inlX5 hown hK hP 0 rfl rfl 7 (by decide) (hts _ xw8_22) (fun _ h9 => h9) rfl dX5_enterJudge_1 ?_
  refine lv_istore_n (lv' := [(3, .int 0), (0, .ref h1), (1, .int p0), (2, .int p1)]) hx hb dX5_enterJudge_4 rfl hl (by decide) rfl (fun ls hl => ?_)
  refine lv_iload_n hx hb dX5_enterJudge_5 rfl (lv_at hl 0 rfl) ?_
  refine lv_bipush (v := 8) hx hb dX5_enterJudge_6 (by decide) ?_
  refine lv_icmp_ge (tgt := 35) hx hb dX5_enterJudge_8 (by decide) (fun c_1 => absurd c_1 (by decide)) (fun _ => ?_)
  refine lv_aload_n hx hb dX5_enterJudge_11 rfl (lv_at hl 1 rfl) ?_
  refine va_get (D := D) (ci := 1) (v := .ref a4) (C := RX5) (T := TX5) (N := 8) hx hb hts inlX5 hown hK hP 0 rfl rfl 3 (by decide) (hts _ xw3_2) (fun _ h9 => h9) rfl dX5_enterJudge_12 ?_
  refine lv_iload_n hx hb dX5_enterJudge_15 rfl (lv_at hl 0 rfl) ?_
  refine lv_iload_n hx hb dX5_enterJudge_16 rfl (lv_at hl 2 rfl) ?_
  refine va_iast hx hb hK hP hD hS 1 0 rfl rfl (by unfold vp_in; decide) dX5_enterJudge_17 (fun H locs hP hD hS => ?_)
  have hP : va_P D xCl [(h1, .inr (1, [.ref a1, .ref a2, .ref a3, .ref a4, .ref a5, .ref a6, .int 0, .int 0])), (a4, .inl (K 0, 8, .inl (upd (fun _ => 0) ((0 : Int32).toNatClampNeg) p0))), (a5, .inl (K 0, 8, .inl (fun _ => 0)))] H := hP
  have hD : va_D A [(h1, .inr (1, [.ref a1, .ref a2, .ref a3, .ref a4, .ref a5, .ref a6, .int 0, .int 0])), (a4, .inl (K 0, 8, .inl (upd (fun _ => 0) ((0 : Int32).toNatClampNeg) p0))), (a5, .inl (K 0, 8, .inl (fun _ => 0)))] := hD
  refine lv_aload_n hx hb dX5_enterJudge_18 rfl (lv_at hl 1 rfl) ?_
  refine va_get (D := D) (ci := 1) (v := .ref a5) (C := RX5) (T := TX5) (N := 8) hx hb hts inlX5 hown hK hP 0 rfl rfl 4 (by decide) (hts _ xw3_3) (fun _ h9 => h9) rfl dX5_enterJudge_19 ?_
  refine lv_iload_n hx hb dX5_enterJudge_22 rfl (lv_at hl 0 rfl) ?_
  refine lv_iload_n hx hb dX5_enterJudge_23 rfl (lv_at hl 3 rfl) ?_
  refine va_iast hx hb hK hP hD hS 2 0 rfl rfl (by unfold vp_in; decide) dX5_enterJudge_24 (fun H locs hP hD hS => ?_)
  have hP : va_P D xCl [(h1, .inr (1, [.ref a1, .ref a2, .ref a3, .ref a4, .ref a5, .ref a6, .int 0, .int 0])), (a4, .inl (K 0, 8, .inl (upd (fun _ => 0) ((0 : Int32).toNatClampNeg) p0))), (a5, .inl (K 0, 8, .inl (upd (fun _ => 0) ((0 : Int32).toNatClampNeg) p1)))] H := hP
  have hD : va_D A [(h1, .inr (1, [.ref a1, .ref a2, .ref a3, .ref a4, .ref a5, .ref a6, .int 0, .int 0])), (a4, .inl (K 0, 8, .inl (upd (fun _ => 0) ((0 : Int32).toNatClampNeg) p0))), (a5, .inl (K 0, 8, .inl (upd (fun _ => 0) ((0 : Int32).toNatClampNeg) p1)))] := hD
  refine lv_aload_n hx hb dX5_enterJudge_25 rfl (lv_at hl 1 rfl) ?_
  refine lv_dup hx hb dX5_enterJudge_26 rfl ?_
  refine va_get (D := D) (ci := 1) (v := .int 0) (C := RX5) (T := TX5) (N := 8) hx hb hts inlX5 hown hK hP 0 rfl rfl 7 (by decide) (hts _ xw8_22) (fun _ h9 => h9) rfl dX5_enterJudge_27 ?_
  refine lv_iconst (v := 1) hx hb dX5_enterJudge_30 (by decide) ?_
  refine lv_iadd hx hb dX5_enterJudge_31 ?_
  refine lv_topi (fun v_2 e_3 => ?_)
  obtain rfl : v_2 = 1 := e_3.trans (by decide)
  refine va_put (D := D) (ci := 1) (v := .int 1) (ty := .int) (C := RX5) (T := TX5) (N := 8) hx hb hts inlX5 tyX5 tyX5_ok nmX5 hown hK hP hD hS 0 rfl rfl 7 (by decide) (hts _ xw8_22) (fun _ h9 => h9) rfl (by decide +kernel) rfl rfl (Nat.le_of_ble_eq_true rfl) dX5_enterJudge_32 (fun H locs hP hD hS => ?_)
  have hP : va_P D xCl [(h1, .inr (1, [.ref a1, .ref a2, .ref a3, .ref a4, .ref a5, .ref a6, .int 0, .int 1])), (a4, .inl (K 0, 8, .inl (upd (fun _ => 0) ((0 : Int32).toNatClampNeg) p0))), (a5, .inl (K 0, 8, .inl (upd (fun _ => 0) ((0 : Int32).toNatClampNeg) p1)))] H := hP
  have hD : va_D A [(h1, .inr (1, [.ref a1, .ref a2, .ref a3, .ref a4, .ref a5, .ref a6, .int 0, .int 1])), (a4, .inl (K 0, 8, .inl (upd (fun _ => 0) ((0 : Int32).toNatClampNeg) p0))), (a5, .inl (K 0, 8, .inl (upd (fun _ => 0) ((0 : Int32).toNatClampNeg) p1)))] := hD
  refine lv_iload_n hx hb dX5_enterJudge_35 rfl (lv_at hl 0 rfl) ?_
  have hP9 : va_P D xCl [] H := hP.sub [] rfl
  have hD9 : va_D A [] := hD.sub [] (by decide) rfl
  refine W.widen (k := 0) (n := 0) (Nat.le_of_ble_eq_true rfl) (Nat.le_of_ble_eq_true rfl) ?_
  exact W.iret (v := 0) hx hb hr (fun t ht hW => ⟨⟨0, (), rfl, rfl, by rw [ht]; exact hP9, hD9⟩, hS.F ht⟩) hS.2.2 dX5_enterJudge_36
set_option maxHeartbeats 4000000 in
set_option maxRecDepth 100000 in
theorem c_X8_addJudge (l : Launch) (hst : l.stackTraces = false) (D : va_G) (K : Nat → ClassId) (h0 h1 h2 h3 h4 h5 h6 h7 a1 a2 a3 a4 a5 a6 : Nat) (sz : Nat) (p0 p1 : Int32) : vx_Met l yX8_addJudge [.code yX8_addJudge cX8_addJudge 3 (some .int)] ({ frames := 6, cells := 1, slots := 6, locals := 82 }) (xPre D K [.ref h0, .int p0, .int p1] [(h0, .inr (0, [.ref h1, .ref h2, .ref h3, .ref h4, .ref h5, .ref h6, .ref h7])), (h1, .inr (1, [.ref a1, .ref a2, .ref a3, .ref a4, .ref a5, .ref a6, .int 0, .int 0])), (a4, .inl (K 0, 8, .inl (fun _ => 0))), (a5, .inl (K 0, 8, .inl (fun _ => 0)))] sz) (va_Qi (fun (r : Int32) (u : Unit) => ¬ p0 < 0 ∧ ¬ 6 ≤ p0 ∧ ¬ p1 < 1 ∧ p1 ≤ 9 ∧ r = 0) (fun u t => xW D (va_A [(h0, .inr (0, [.ref h1, .ref h2, .ref h3, .ref h4, .ref h5, .ref h6, .ref h7])), (h1, .inr (1, [.ref a1, .ref a2, .ref a3, .ref a4, .ref a5, .ref a6, .int 0, .int 0])), (a4, .inl (K 0, 8, .inl (fun _ => 0))), (a5, .inl (K 0, 8, .inl (fun _ => 0)))] sz) ((fun (_ : Unit) => []) u) t) (va_A [(h0, .inr (0, [.ref h1, .ref h2, .ref h3, .ref h4, .ref h5, .ref h6, .ref h7])), (h1, .inr (1, [.ref a1, .ref a2, .ref a3, .ref a4, .ref a5, .ref a6, .int 0, .int 0])), (a4, .inl (K 0, 8, .inl (fun _ => 0))), (a5, .inl (K 0, 8, .inl (fun _ => 0)))] sz)) (vx_X (S := Unit) (fun _ => True) (fun E _ _ => (fun E => (p0 < 0 ∧ E = "java/lang/IllegalArgumentException") ∨ (¬ p0 < 0 ∧ 6 ≤ p0 ∧ E = "java/lang/IllegalArgumentException") ∨ (¬ p0 < 0 ∧ ¬ 6 ≤ p0 ∧ p1 < 1 ∧ E = "java/lang/IllegalArgumentException") ∨ (¬ p0 < 0 ∧ ¬ 6 ≤ p0 ∧ ¬ p1 < 1 ∧ ¬ p1 ≤ 9 ∧ E = "java/lang/IllegalArgumentException")) E) (va_A [(h0, .inr (0, [.ref h1, .ref h2, .ref h3, .ref h4, .ref h5, .ref h6, .ref h7])), (h1, .inr (1, [.ref a1, .ref a2, .ref a3, .ref a4, .ref a5, .ref a6, .int 0, .int 0])), (a4, .inl (K 0, 8, .inl (fun _ => 0))), (a5, .inl (K 0, 8, .inl (fun _ => 0)))] sz)) 1 6 (va_A [(h0, .inr (0, [.ref h1, .ref h2, .ref h3, .ref h4, .ref h5, .ref h6, .ref h7])), (h1, .inr (1, [.ref a1, .ref a2, .ref a3, .ref a4, .ref a5, .ref a6, .int 0, .int 0])), (a4, .inl (K 0, 8, .inl (fun _ => 0))), (a5, .inl (K 0, 8, .inl (fun _ => 0)))] sz) := by
  refine vx_ofW (cc := cX8_addJudge) (maxL := 3) (ret := (some .int)) (by decide) rfl ?_
  intro p e s m args below meth c s₁ B hml hte hv
  obtain ⟨rfl, hsz, hP, hD0, hE⟩ := hv
  have hx := B.exec
  have hb := B.bytes
  have hr := B.returns
  have hlocks := B.notSynchronized
  have hts := hE.1.ts ([.ref h0, .int p0, .int p1] : List Value).toArray
  have hnt := hE.1.nt ([.ref h0, .int p0, .int p1] : List Value).toArray
  have hK := hE.2.1
  have hown : s.vm.findClass RX8 = some m.cls := findClass_of_methodNamed B.named
  subst hsz
  have hD := hD0.self (sz := s.heap.size)
  generalize hAe : va_A [(h0, .inr (0, [.ref h1, .ref h2, .ref h3, .ref h4, .ref h5, .ref h6, .ref h7])), (h1, .inr (1, [.ref a1, .ref a2, .ref a3, .ref a4, .ref a5, .ref a6, .int 0, .int 0])), (a4, .inl (K 0, 8, .inl (fun _ => 0))), (a5, .inl (K 0, 8, .inl (fun _ => 0)))] s.heap.size = A at hD hE ⊢
  have hA : ∀ q : Nat, s.heap.size ≤ q → A q := fun q h => by rw [← hAe]; exact Or.inr h
  have hl := lv_entry ([.ref h0, .int p0, .int p1]) (n := 3) (Nat.le_of_ble_eq_true rfl)
  rw [lg_entry_eq]
  generalize (lg_sl ([.ref h0, .int p0, .int p1]) ++ List.replicate (3 - (lg_sl ([.ref h0, .int p0, .int p1])).length) Slot.unset).toArray = ls at hl ⊢
  have hl : lv_has ls 3 [(0, .ref h0), (1, .int p0), (2, .int p1)] := hl
  generalize hH : s.heap = H at hP ⊢
  have hS : va_S A s.heap H [] := by rw [← hH]; exact va_S.rf
  refine lv_iload_n hx hb dX8_addJudge_0 rfl (lv_at hl 1 rfl) ?_
  have hF := va_free (wc := []) hD hS hA [] rfl
  refine xk_i (w1 := fun (_ : Unit) => []) (wc := []) (wr := [(h0, .inr (0, [.ref h1, .ref h2, .ref h3, .ref h4, .ref h5, .ref h6, .ref h7])), (h1, .inr (1, [.ref a1, .ref a2, .ref a3, .ref a4, .ref a5, .ref a6, .int 0, .int 0])), (a4, .inl (K 0, 8, .inl (fun _ => 0))), (a5, .inl (K 0, 8, .inl (fun _ => 0)))]) (va_runS (As := [.int p0]) (rest := []) ⟨hx, hb, hml, hown, hts⟩ (c_X8_isSchool l D K H.size p0) (va_cwS 1 hts xg_RX8_X8_isSchool_64 rfl rfl rfl (by decide +kernel) ⟨Nat.le_of_ble_eq_true rfl, Nat.le_of_ble_eq_true rfl⟩) ⟨xPre.blind, xPre.call hE hS (hP.sub [] rfl) (hD.sub [] (by decide) rfl) hF⟩ rfl rfl hl.1 rfl (lv_room (Nat.le_of_ble_eq_true rfl)) dX8_addJudge_1 ⟨Nat.le_of_ble_eq_true rfl, Nat.le_of_ble_eq_true rfl⟩) hP hD hS hF [] [0, 1, 2, 3] rfl rfl rfl (by decide) (fun r_2 u_1 H locs hw_3 hP hD hS => ?_)
  rcases hw_3 with ⟨c_4, rfl⟩ | ⟨c_5, c_6, rfl⟩ | ⟨c_7, c_8, rfl⟩
  · have hP : va_P D xCl [(h0, .inr (0, [.ref h1, .ref h2, .ref h3, .ref h4, .ref h5, .ref h6, .ref h7])), (h1, .inr (1, [.ref a1, .ref a2, .ref a3, .ref a4, .ref a5, .ref a6, .int 0, .int 0])), (a4, .inl (K 0, 8, .inl (fun _ => 0))), (a5, .inl (K 0, 8, .inl (fun _ => 0)))] H := hP
    have hD : va_D A [(h0, .inr (0, [.ref h1, .ref h2, .ref h3, .ref h4, .ref h5, .ref h6, .ref h7])), (h1, .inr (1, [.ref a1, .ref a2, .ref a3, .ref a4, .ref a5, .ref a6, .int 0, .int 0])), (a4, .inl (K 0, 8, .inl (fun _ => 0))), (a5, .inl (K 0, 8, .inl (fun _ => 0)))] := hD
    refine lv_if_eq (tgt := 18) hx hb dX8_addJudge_4 (by decide) (fun _ => ?_) (fun c_9 => absurd (by decide) c_9)
    obtain ⟨sa_10, hs_11⟩ := hE.1.2.2.2.2.1 (88, "the school or the rank is out of range") (List.mem_of_getElem? (i := 2) rfl)
    exact vx_throwS (cls := "java/lang/IllegalArgumentException") (names := ["java/lang/RuntimeException", "java/lang/Exception"]) (ic := 72) hx hb hst hown (by decide +kernel) (by decide +kernel) (hts _ xw7_10) (hts _ xw7_11) hs_11 (xat_IAE hE.1 _) xot_IAE hE.2.2.1 hE.2.2.2 hS (hl.1.trans hml.symm) dX8_addJudge_18 dX8_addJudge_21 dX8_addJudge_22 dX8_addJudge_24 dX8_addJudge_27 (fun x hx9 => (hte x hx9).elim) (by decide) (Nat.le_of_ble_eq_true rfl) (Nat.le_of_ble_eq_true rfl) (Nat.le_of_ble_eq_true rfl) hlocks (fun t hW h1 h2 => ⟨(), trivial, Or.inl ⟨c_4, rfl⟩, Nat.le_trans hS.1 h1, fun q hq hn => (h2 q (Nat.lt_of_lt_of_le hq hS.1)).trans (hS.2.1 q hq hn)⟩) hS.2.2 (Nat.le_of_ble_eq_true rfl) (Nat.le_of_ble_eq_true rfl)
  · have hP : va_P D xCl [(h0, .inr (0, [.ref h1, .ref h2, .ref h3, .ref h4, .ref h5, .ref h6, .ref h7])), (h1, .inr (1, [.ref a1, .ref a2, .ref a3, .ref a4, .ref a5, .ref a6, .int 0, .int 0])), (a4, .inl (K 0, 8, .inl (fun _ => 0))), (a5, .inl (K 0, 8, .inl (fun _ => 0)))] H := hP
    have hD : va_D A [(h0, .inr (0, [.ref h1, .ref h2, .ref h3, .ref h4, .ref h5, .ref h6, .ref h7])), (h1, .inr (1, [.ref a1, .ref a2, .ref a3, .ref a4, .ref a5, .ref a6, .int 0, .int 0])), (a4, .inl (K 0, 8, .inl (fun _ => 0))), (a5, .inl (K 0, 8, .inl (fun _ => 0)))] := hD
    refine lv_if_eq (tgt := 18) hx hb dX8_addJudge_4 (by decide) (fun _ => ?_) (fun c_12 => absurd (by decide) c_12)
    obtain ⟨sa_13, hs_14⟩ := hE.1.2.2.2.2.1 (88, "the school or the rank is out of range") (List.mem_of_getElem? (i := 2) rfl)
    exact vx_throwS (cls := "java/lang/IllegalArgumentException") (names := ["java/lang/RuntimeException", "java/lang/Exception"]) (ic := 72) hx hb hst hown (by decide +kernel) (by decide +kernel) (hts _ xw7_10) (hts _ xw7_11) hs_14 (xat_IAE hE.1 _) xot_IAE hE.2.2.1 hE.2.2.2 hS (hl.1.trans hml.symm) dX8_addJudge_18 dX8_addJudge_21 dX8_addJudge_22 dX8_addJudge_24 dX8_addJudge_27 (fun x hx9 => (hte x hx9).elim) (by decide) (Nat.le_of_ble_eq_true rfl) (Nat.le_of_ble_eq_true rfl) (Nat.le_of_ble_eq_true rfl) hlocks (fun t hW h1 h2 => ⟨(), trivial, Or.inr (Or.inl ⟨c_5, c_6, rfl⟩), Nat.le_trans hS.1 h1, fun q hq hn => (h2 q (Nat.lt_of_lt_of_le hq hS.1)).trans (hS.2.1 q hq hn)⟩) hS.2.2 (Nat.le_of_ble_eq_true rfl) (Nat.le_of_ble_eq_true rfl)
  · have hP : va_P D xCl [(h0, .inr (0, [.ref h1, .ref h2, .ref h3, .ref h4, .ref h5, .ref h6, .ref h7])), (h1, .inr (1, [.ref a1, .ref a2, .ref a3, .ref a4, .ref a5, .ref a6, .int 0, .int 0])), (a4, .inl (K 0, 8, .inl (fun _ => 0))), (a5, .inl (K 0, 8, .inl (fun _ => 0)))] H := hP
    have hD : va_D A [(h0, .inr (0, [.ref h1, .ref h2, .ref h3, .ref h4, .ref h5, .ref h6, .ref h7])), (h1, .inr (1, [.ref a1, .ref a2, .ref a3, .ref a4, .ref a5, .ref a6, .int 0, .int 0])), (a4, .inl (K 0, 8, .inl (fun _ => 0))), (a5, .inl (K 0, 8, .inl (fun _ => 0)))] := hD
    refine lv_if_eq (tgt := 18) hx hb dX8_addJudge_4 (by decide) (fun c_15 => absurd c_15 (by decide)) (fun _ => ?_)
    refine lv_iload_n hx hb dX8_addJudge_7 rfl (lv_at hl 2 rfl) ?_
    refine lv_iconst (v := 1) hx hb dX8_addJudge_8 (by decide) ?_
    refine lv_icmp_lt (tgt := 18) hx hb dX8_addJudge_9 (by decide) (fun c_16 => ?_) (fun c_16 => ?_)
    · obtain ⟨sa_17, hs_18⟩ := hE.1.2.2.2.2.1 (88, "the school or the rank is out of range") (List.mem_of_getElem? (i := 2) rfl)
      exact vx_throwS (cls := "java/lang/IllegalArgumentException") (names := ["java/lang/RuntimeException", "java/lang/Exception"]) (ic := 72) hx hb hst hown (by decide +kernel) (by decide +kernel) (hts _ xw7_10) (hts _ xw7_11) hs_18 (xat_IAE hE.1 _) xot_IAE hE.2.2.1 hE.2.2.2 hS (hl.1.trans hml.symm) dX8_addJudge_18 dX8_addJudge_21 dX8_addJudge_22 dX8_addJudge_24 dX8_addJudge_27 (fun x hx9 => (hte x hx9).elim) (by decide) (Nat.le_of_ble_eq_true rfl) (Nat.le_of_ble_eq_true rfl) (Nat.le_of_ble_eq_true rfl) hlocks (fun t hW h1 h2 => ⟨(), trivial, Or.inr (Or.inr (Or.inl ⟨c_7, c_8, c_16, rfl⟩)), Nat.le_trans hS.1 h1, fun q hq hn => (h2 q (Nat.lt_of_lt_of_le hq hS.1)).trans (hS.2.1 q hq hn)⟩) hS.2.2 (Nat.le_of_ble_eq_true rfl) (Nat.le_of_ble_eq_true rfl)
    · refine lv_iload_n hx hb dX8_addJudge_12 rfl (lv_at hl 2 rfl) ?_
      refine lv_bipush (v := 9) hx hb dX8_addJudge_13 (by decide) ?_
      refine lv_icmp_le (tgt := 28) hx hb dX8_addJudge_15 (by decide) (fun c_19 => ?_) (fun c_19 => ?_)
      · refine lv_aload_n hx hb dX8_addJudge_28 rfl (lv_at hl 0 rfl) ?_
        refine va_get (D := D) (ci := 0) (v := .ref h1) (C := RX8) (T := TX8) (N := 7) hx hb hts inlX8 hown hK hP 0 rfl rfl 0 (by decide) (hts _ xw1_17) (fun _ h9 => h9) rfl dX8_addJudge_29 ?_
        refine va_getN (D := D) (ci := 1) (v := .int 0) (C := RX5) (T := TX5) (N := 8) hx hb hts inlX5 hown hK hP 1 rfl rfl 7 (by decide) (hnt _ xn11) (fun _ h9 => h9) rfl dX8_addJudge_32 ?_
        refine lv_bipush (v := 8) hx hb dX8_addJudge_35 (by decide) ?_
        refine lv_icmp_lt (tgt := 50) hx hb dX8_addJudge_37 (by decide) (fun _ => ?_) (fun c_20 => absurd (by decide) c_20)
        refine lv_aload_n hx hb dX8_addJudge_50 rfl (lv_at hl 0 rfl) ?_
        refine va_get (D := D) (ci := 0) (v := .ref h1) (C := RX8) (T := TX8) (N := 7) hx hb hts inlX8 hown hK hP 0 rfl rfl 0 (by decide) (hts _ xw1_17) (fun _ h9 => h9) rfl dX8_addJudge_51 ?_
        refine lv_iload_n hx hb dX8_addJudge_54 rfl (lv_at hl 1 rfl) ?_
        refine lv_iload_n hx hb dX8_addJudge_55 rfl (lv_at hl 2 rfl) ?_
        have hF := va_free (wc := [(h1, .inr (1, [.ref a1, .ref a2, .ref a3, .ref a4, .ref a5, .ref a6, .int 0, .int 0])), (a4, .inl (K 0, 8, .inl (fun _ => 0))), (a5, .inl (K 0, 8, .inl (fun _ => 0)))]) hD hS hA [1, 2, 3] rfl
        refine xk_i (w1 := fun (_ : Unit) => []) (wc := [(h1, .inr (1, [.ref a1, .ref a2, .ref a3, .ref a4, .ref a5, .ref a6, .int 0, .int 0])), (a4, .inl (K 0, 8, .inl (fun _ => 0))), (a5, .inl (K 0, 8, .inl (fun _ => 0)))]) (wr := [(h0, .inr (0, [.ref h1, .ref h2, .ref h3, .ref h4, .ref h5, .ref h6, .ref h7]))]) (va_runV (As := [.int p0, .int p1]) (rest := []) ⟨hx, hb, hml, hown, hts⟩ (c_X5_enterJudge l D K h1 a1 a2 a3 a4 a5 a6 H.size p0 p1) (cwV 2 hts xg_RX8_X5_enterJudge_95 rfl rfl rfl (by decide +kernel) ⟨Nat.le_of_ble_eq_true rfl, Nat.le_of_ble_eq_true rfl⟩) ⟨xPre.blind, va_recv hK hP (ci := 1) (q0 := 1) rfl rfl, xPre.call hE hS (hP.sub [1, 2, 3] rfl) (hD.sub [1, 2, 3] (by decide) rfl) hF⟩ rfl rfl hl.1 rfl (lv_room (Nat.le_of_ble_eq_true rfl)) dX8_addJudge_56 ⟨Nat.le_of_ble_eq_true rfl, Nat.le_of_ble_eq_true rfl⟩) hP hD hS hF [1, 2, 3] [0] rfl rfl rfl (by decide) (fun r_22 u_21 H locs hw_23 hP hD hS => ?_)
        obtain rfl := hw_23
        have hP : va_P D xCl [(h0, .inr (0, [.ref h1, .ref h2, .ref h3, .ref h4, .ref h5, .ref h6, .ref h7]))] H := hP
        have hD : va_D A [(h0, .inr (0, [.ref h1, .ref h2, .ref h3, .ref h4, .ref h5, .ref h6, .ref h7]))] := hD
        have hP9 : va_P D xCl [] H := hP.sub [] rfl
        have hD9 : va_D A [] := hD.sub [] (by decide) rfl
        refine W.widen (k := 1) (n := 6) (Nat.le_of_ble_eq_true rfl) (Nat.le_of_ble_eq_true rfl) ?_
        refine vx_ret ?_
        exact W.iret (v := 0) hx hb hr (fun t ht hW => ⟨⟨0, (), rfl, ⟨c_7, c_8, c_16, c_19, rfl⟩, by rw [ht]; exact hP9, hD9⟩, hS.F ht⟩) hS.2.2 dX8_addJudge_59
      · obtain ⟨sa_24, hs_25⟩ := hE.1.2.2.2.2.1 (88, "the school or the rank is out of range") (List.mem_of_getElem? (i := 2) rfl)
        exact vx_throwS (cls := "java/lang/IllegalArgumentException") (names := ["java/lang/RuntimeException", "java/lang/Exception"]) (ic := 72) hx hb hst hown (by decide +kernel) (by decide +kernel) (hts _ xw7_10) (hts _ xw7_11) hs_25 (xat_IAE hE.1 _) xot_IAE hE.2.2.1 hE.2.2.2 hS (hl.1.trans hml.symm) dX8_addJudge_18 dX8_addJudge_21 dX8_addJudge_22 dX8_addJudge_24 dX8_addJudge_27 (fun x hx9 => (hte x hx9).elim) (by decide) (Nat.le_of_ble_eq_true rfl) (Nat.le_of_ble_eq_true rfl) (Nat.le_of_ble_eq_true rfl) hlocks (fun t hW h1 h2 => ⟨(), trivial, Or.inr (Or.inr (Or.inr ⟨c_7, c_8, c_16, c_19, rfl⟩)), Nat.le_trans hS.1 h1, fun q hq hn => (h2 q (Nat.lt_of_lt_of_le hq hS.1)).trans (hS.2.1 q hq hn)⟩) hS.2.2 (Nat.le_of_ble_eq_true rfl) (Nat.le_of_ble_eq_true rfl)
set_option maxHeartbeats 4000000 in
set_option maxRecDepth 100000 in
theorem c_X5_hasJudge (l : Launch) (D : va_G) (K : Nat → ClassId) (h1 a1 a2 a3 a4 a5 a6 : Nat) (sz : Nat) (p0 : Int32) : Met l yX5_hasJudge [.code yX5_hasJudge cX5_hasJudge 2 (some .boolean)] ({ frames := 0, cells := 0, slots := 0, locals := 0 }) (xPre D K [.ref h1, .int p0] [(h1, .inr (1, [.ref a1, .ref a2, .ref a3, .ref a4, .ref a5, .ref a6, .int 0, .int 0]))] sz) (va_Qi (fun (r : Int32) (u : Unit) => r = 0) (fun u t => xW D (va_A [(h1, .inr (1, [.ref a1, .ref a2, .ref a3, .ref a4, .ref a5, .ref a6, .int 0, .int 0]))] sz) ((fun (_ : Unit) => []) u) t) (va_A [(h1, .inr (1, [.ref a1, .ref a2, .ref a3, .ref a4, .ref a5, .ref a6, .int 0, .int 0]))] sz)) 0 0 (va_A [(h1, .inr (1, [.ref a1, .ref a2, .ref a3, .ref a4, .ref a5, .ref a6, .int 0, .int 0]))] sz) := by
  refine Met.ofW (cc := cX5_hasJudge) (maxL := 2) (ret := (some .boolean)) (by decide) rfl ?_
  intro p e s m args below meth c s₁ B hml hv
  obtain ⟨rfl, hsz, hP, hD0, hE⟩ := hv
  have hx := B.exec
  have hb := B.bytes
  have hr := B.returns
  have hlocks := B.notSynchronized
  have hts := hE.1.ts ([.ref h1, .int p0] : List Value).toArray
  have hnt := hE.1.nt ([.ref h1, .int p0] : List Value).toArray
  have hK := hE.2.1
  have hown : s.vm.findClass RX5 = some m.cls := findClass_of_methodNamed B.named
  subst hsz
  have hD := hD0.self (sz := s.heap.size)
  generalize hAe : va_A [(h1, .inr (1, [.ref a1, .ref a2, .ref a3, .ref a4, .ref a5, .ref a6, .int 0, .int 0]))] s.heap.size = A at hD hE ⊢
  have hA : ∀ q : Nat, s.heap.size ≤ q → A q := fun q h => by rw [← hAe]; exact Or.inr h
  have hl := lv_entry ([.ref h1, .int p0]) (n := 2) (Nat.le_of_ble_eq_true rfl)
  rw [lg_entry_eq]
  generalize (lg_sl ([.ref h1, .int p0]) ++ List.replicate (2 - (lg_sl ([.ref h1, .int p0])).length) Slot.unset).toArray = ls at hl ⊢
  have hl : lv_has ls 2 [(0, .ref h1), (1, .int p0)] := hl
  generalize hH : s.heap = H at hP ⊢
  have hS : va_S A s.heap H [] := by rw [← hH]; exact va_S.rf
  refine lv_iload_n hx hb dX5_hasJudge_0 rfl (lv_at hl 1 rfl) ?_
  refine lv_if_lt (tgt := 16) hx hb dX5_hasJudge_1 (by decide) (fun c_1 => ?_) (fun c_1 => ?_)
  · refine lv_iconst (v := 0) hx hb dX5_hasJudge_16 (by decide) ?_
    have hP9 : va_P D xCl [] H := hP.sub [] rfl
    have hD9 : va_D A [] := hD.sub [] (by decide) rfl
    refine W.widen (k := 0) (n := 0) (Nat.le_of_ble_eq_true rfl) (Nat.le_of_ble_eq_true rfl) ?_
    exact W.zret (ty := .boolean) (v := 0) hx hb hr (by first | rfl | decide) (fun t ht hW => ⟨⟨0, (), rfl, rfl, by rw [ht]; exact hP9, hD9⟩, hS.F ht⟩) hS.2.2 dX5_hasJudge_17
  · refine lv_iload_n hx hb dX5_hasJudge_4 rfl (lv_at hl 1 rfl) ?_
    refine lv_aload_n hx hb dX5_hasJudge_5 rfl (lv_at hl 0 rfl) ?_
    refine va_get (D := D) (ci := 1) (v := .int 0) (C := RX5) (T := TX5) (N := 8) hx hb hts inlX5 hown hK hP 0 rfl rfl 7 (by decide) (hts _ xw8_22) (fun _ h9 => h9) rfl dX5_hasJudge_6 ?_
    refine lv_icmp_ge (tgt := 16) hx hb dX5_hasJudge_9 (by decide) (fun _ => ?_) (fun c_2 => absurd (by have g1 := mt Int32.lt_iff_toInt_lt.mpr c_1; have k0 : (0 : Int32).toInt = 0 := (by decide); refine Int32.le_iff_toInt_le.mpr ?_; omega) c_2)
    refine lv_iconst (v := 0) hx hb dX5_hasJudge_16 (by decide) ?_
    have hP9 : va_P D xCl [] H := hP.sub [] rfl
    have hD9 : va_D A [] := hD.sub [] (by decide) rfl
    refine W.widen (k := 0) (n := 0) (Nat.le_of_ble_eq_true rfl) (Nat.le_of_ble_eq_true rfl) ?_
    exact W.zret (ty := .boolean) (v := 0) hx hb hr (by first | rfl | decide) (fun t ht hW => ⟨⟨0, (), rfl, rfl, by rw [ht]; exact hP9, hD9⟩, hS.F ht⟩) hS.2.2 dX5_hasJudge_17
set_option maxHeartbeats 4000000 in
set_option maxRecDepth 100000 in
theorem c_X5_hasTeam (l : Launch) (D : va_G) (K : Nat → ClassId) (h1 a1 a2 a3 a4 a5 a6 : Nat) (sz : Nat) (p0 : Int32) : Met l yX5_hasTeam [.code yX5_hasTeam cX5_hasTeam 2 (some .boolean)] ({ frames := 0, cells := 0, slots := 0, locals := 0 }) (xPre D K [.ref h1, .int p0] [(h1, .inr (1, [.ref a1, .ref a2, .ref a3, .ref a4, .ref a5, .ref a6, .int 0, .int 0]))] sz) (va_Qi (fun (r : Int32) (u : Unit) => r = 0) (fun u t => xW D (va_A [(h1, .inr (1, [.ref a1, .ref a2, .ref a3, .ref a4, .ref a5, .ref a6, .int 0, .int 0]))] sz) ((fun (_ : Unit) => []) u) t) (va_A [(h1, .inr (1, [.ref a1, .ref a2, .ref a3, .ref a4, .ref a5, .ref a6, .int 0, .int 0]))] sz)) 0 0 (va_A [(h1, .inr (1, [.ref a1, .ref a2, .ref a3, .ref a4, .ref a5, .ref a6, .int 0, .int 0]))] sz) := by
  refine Met.ofW (cc := cX5_hasTeam) (maxL := 2) (ret := (some .boolean)) (by decide) rfl ?_
  intro p e s m args below meth c s₁ B hml hv
  obtain ⟨rfl, hsz, hP, hD0, hE⟩ := hv
  have hx := B.exec
  have hb := B.bytes
  have hr := B.returns
  have hlocks := B.notSynchronized
  have hts := hE.1.ts ([.ref h1, .int p0] : List Value).toArray
  have hnt := hE.1.nt ([.ref h1, .int p0] : List Value).toArray
  have hK := hE.2.1
  have hown : s.vm.findClass RX5 = some m.cls := findClass_of_methodNamed B.named
  subst hsz
  have hD := hD0.self (sz := s.heap.size)
  generalize hAe : va_A [(h1, .inr (1, [.ref a1, .ref a2, .ref a3, .ref a4, .ref a5, .ref a6, .int 0, .int 0]))] s.heap.size = A at hD hE ⊢
  have hA : ∀ q : Nat, s.heap.size ≤ q → A q := fun q h => by rw [← hAe]; exact Or.inr h
  have hl := lv_entry ([.ref h1, .int p0]) (n := 2) (Nat.le_of_ble_eq_true rfl)
  rw [lg_entry_eq]
  generalize (lg_sl ([.ref h1, .int p0]) ++ List.replicate (2 - (lg_sl ([.ref h1, .int p0])).length) Slot.unset).toArray = ls at hl ⊢
  have hl : lv_has ls 2 [(0, .ref h1), (1, .int p0)] := hl
  generalize hH : s.heap = H at hP ⊢
  have hS : va_S A s.heap H [] := by rw [← hH]; exact va_S.rf
  refine lv_iload_n hx hb dX5_hasTeam_0 rfl (lv_at hl 1 rfl) ?_
  refine lv_if_lt (tgt := 16) hx hb dX5_hasTeam_1 (by decide) (fun c_1 => ?_) (fun c_1 => ?_)
  · refine lv_iconst (v := 0) hx hb dX5_hasTeam_16 (by decide) ?_
    have hP9 : va_P D xCl [] H := hP.sub [] rfl
    have hD9 : va_D A [] := hD.sub [] (by decide) rfl
    refine W.widen (k := 0) (n := 0) (Nat.le_of_ble_eq_true rfl) (Nat.le_of_ble_eq_true rfl) ?_
    exact W.zret (ty := .boolean) (v := 0) hx hb hr (by first | rfl | decide) (fun t ht hW => ⟨⟨0, (), rfl, rfl, by rw [ht]; exact hP9, hD9⟩, hS.F ht⟩) hS.2.2 dX5_hasTeam_17
  · refine lv_iload_n hx hb dX5_hasTeam_4 rfl (lv_at hl 1 rfl) ?_
    refine lv_aload_n hx hb dX5_hasTeam_5 rfl (lv_at hl 0 rfl) ?_
    refine va_get (D := D) (ci := 1) (v := .int 0) (C := RX5) (T := TX5) (N := 8) hx hb hts inlX5 hown hK hP 0 rfl rfl 6 (by decide) (hts _ xw7_21) (fun _ h9 => h9) rfl dX5_hasTeam_6 ?_
    refine lv_icmp_ge (tgt := 16) hx hb dX5_hasTeam_9 (by decide) (fun _ => ?_) (fun c_2 => absurd (by have g1 := mt Int32.lt_iff_toInt_lt.mpr c_1; have k0 : (0 : Int32).toInt = 0 := (by decide); refine Int32.le_iff_toInt_le.mpr ?_; omega) c_2)
    refine lv_iconst (v := 0) hx hb dX5_hasTeam_16 (by decide) ?_
    have hP9 : va_P D xCl [] H := hP.sub [] rfl
    have hD9 : va_D A [] := hD.sub [] (by decide) rfl
    refine W.widen (k := 0) (n := 0) (Nat.le_of_ble_eq_true rfl) (Nat.le_of_ble_eq_true rfl) ?_
    exact W.zret (ty := .boolean) (v := 0) hx hb hr (by first | rfl | decide) (fun t ht hW => ⟨⟨0, (), rfl, rfl, by rw [ht]; exact hP9, hD9⟩, hS.F ht⟩) hS.2.2 dX5_hasTeam_17
set_option maxHeartbeats 4000000 in
set_option maxRecDepth 100000 in
theorem c_X8_needJudge (l : Launch) (hst : l.stackTraces = false) (D : va_G) (K : Nat → ClassId) (h0 h1 h2 h3 h4 h5 h6 h7 a1 a2 a3 a4 a5 a6 : Nat) (sz : Nat) (p0 : Int32) : vx_Met l yX8_needJudge [.code yX8_needJudge cX8_needJudge 2 none] ({ frames := 6, cells := 1, slots := 6, locals := 82 }) (xPre D K [.ref h0, .int p0] [(h0, .inr (0, [.ref h1, .ref h2, .ref h3, .ref h4, .ref h5, .ref h6, .ref h7])), (h1, .inr (1, [.ref a1, .ref a2, .ref a3, .ref a4, .ref a5, .ref a6, .int 0, .int 0]))] sz) (va_Qv (fun (u : Unit) => False) (fun u t => xW D (va_A [(h0, .inr (0, [.ref h1, .ref h2, .ref h3, .ref h4, .ref h5, .ref h6, .ref h7])), (h1, .inr (1, [.ref a1, .ref a2, .ref a3, .ref a4, .ref a5, .ref a6, .int 0, .int 0]))] sz) ((fun (_ : Unit) => []) u) t) (va_A [(h0, .inr (0, [.ref h1, .ref h2, .ref h3, .ref h4, .ref h5, .ref h6, .ref h7])), (h1, .inr (1, [.ref a1, .ref a2, .ref a3, .ref a4, .ref a5, .ref a6, .int 0, .int 0]))] sz)) (vx_X (S := Unit) (fun _ => True) (fun E _ _ => (fun E => E = "java/util/NoSuchElementException") E) (va_A [(h0, .inr (0, [.ref h1, .ref h2, .ref h3, .ref h4, .ref h5, .ref h6, .ref h7])), (h1, .inr (1, [.ref a1, .ref a2, .ref a3, .ref a4, .ref a5, .ref a6, .int 0, .int 0]))] sz)) 1 6 (va_A [(h0, .inr (0, [.ref h1, .ref h2, .ref h3, .ref h4, .ref h5, .ref h6, .ref h7])), (h1, .inr (1, [.ref a1, .ref a2, .ref a3, .ref a4, .ref a5, .ref a6, .int 0, .int 0]))] sz) := by
  refine vx_ofW (cc := cX8_needJudge) (maxL := 2) (ret := none) (by decide) rfl ?_
  intro p e s m args below meth c s₁ B hml hte hv
  obtain ⟨rfl, hsz, hP, hD0, hE⟩ := hv
  have hx := B.exec
  have hb := B.bytes
  have hr := B.returns
  have hlocks := B.notSynchronized
  have hts := hE.1.ts ([.ref h0, .int p0] : List Value).toArray
  have hnt := hE.1.nt ([.ref h0, .int p0] : List Value).toArray
  have hK := hE.2.1
  have hown : s.vm.findClass RX8 = some m.cls := findClass_of_methodNamed B.named
  subst hsz
  have hD := hD0.self (sz := s.heap.size)
  generalize hAe : va_A [(h0, .inr (0, [.ref h1, .ref h2, .ref h3, .ref h4, .ref h5, .ref h6, .ref h7])), (h1, .inr (1, [.ref a1, .ref a2, .ref a3, .ref a4, .ref a5, .ref a6, .int 0, .int 0]))] s.heap.size = A at hD hE ⊢
  have hA : ∀ q : Nat, s.heap.size ≤ q → A q := fun q h => by rw [← hAe]; exact Or.inr h
  have hl := lv_entry ([.ref h0, .int p0]) (n := 2) (Nat.le_of_ble_eq_true rfl)
  rw [lg_entry_eq]
  generalize (lg_sl ([.ref h0, .int p0]) ++ List.replicate (2 - (lg_sl ([.ref h0, .int p0])).length) Slot.unset).toArray = ls at hl ⊢
  have hl : lv_has ls 2 [(0, .ref h0), (1, .int p0)] := hl
  generalize hH : s.heap = H at hP ⊢
  have hS : va_S A s.heap H [] := by rw [← hH]; exact va_S.rf
  refine lv_aload_n hx hb dX8_needJudge_0 rfl (lv_at hl 0 rfl) ?_
  refine va_get (D := D) (ci := 0) (v := .ref h1) (C := RX8) (T := TX8) (N := 7) hx hb hts inlX8 hown hK hP 0 rfl rfl 0 (by decide) (hts _ xw1_17) (fun _ h9 => h9) rfl dX8_needJudge_1 ?_
  refine lv_iload_n hx hb dX8_needJudge_4 rfl (lv_at hl 1 rfl) ?_
  have hF := va_free (wc := [(h1, .inr (1, [.ref a1, .ref a2, .ref a3, .ref a4, .ref a5, .ref a6, .int 0, .int 0]))]) hD hS hA [1] rfl
  refine xk_i (w1 := fun (_ : Unit) => []) (wc := [(h1, .inr (1, [.ref a1, .ref a2, .ref a3, .ref a4, .ref a5, .ref a6, .int 0, .int 0]))]) (wr := [(h0, .inr (0, [.ref h1, .ref h2, .ref h3, .ref h4, .ref h5, .ref h6, .ref h7]))]) (va_runV (As := [.int p0]) (rest := []) ⟨hx, hb, hml, hown, hts⟩ (c_X5_hasJudge l D K h1 a1 a2 a3 a4 a5 a6 H.size p0) (cwV 1 hts xg_RX8_X5_hasJudge_370 rfl rfl rfl (by decide +kernel) ⟨Nat.le_of_ble_eq_true rfl, Nat.le_of_ble_eq_true rfl⟩) ⟨xPre.blind, va_recv hK hP (ci := 1) (q0 := 1) rfl rfl, xPre.call hE hS (hP.sub [1] rfl) (hD.sub [1] (by decide) rfl) hF⟩ rfl rfl hl.1 rfl (lv_room (Nat.le_of_ble_eq_true rfl)) dX8_needJudge_5 ⟨Nat.le_of_ble_eq_true rfl, Nat.le_of_ble_eq_true rfl⟩) hP hD hS hF [1] [0] rfl rfl rfl (by decide) (fun r_2 u_1 H locs hw_3 hP hD hS => ?_)
  obtain rfl := hw_3
  have hP : va_P D xCl [(h0, .inr (0, [.ref h1, .ref h2, .ref h3, .ref h4, .ref h5, .ref h6, .ref h7]))] H := hP
  have hD : va_D A [(h0, .inr (0, [.ref h1, .ref h2, .ref h3, .ref h4, .ref h5, .ref h6, .ref h7]))] := hD
  refine lv_if_ne (tgt := 22) hx hb dX8_needJudge_8 (by decide) (fun c_4 => absurd (by decide) c_4) (fun _ => ?_)
  obtain ⟨sa_5, hs_6⟩ := hE.1.2.2.2.2.1 (373, "there is no such judge") (List.mem_of_getElem? (i := 26) rfl)
  exact xthrowN (cls := "java/util/NoSuchElementException") (Y := "java/lang/RuntimeException") (names := ["java/lang/Exception"]) (ic := 210) (k0 := 13) (b0 := xb13) (w := 3) hx hb hst xb13_0 xb13_1 xb13_2 xb13_5 hown (by decide +kernel) (by decide +kernel) (by decide +kernel) (hts _ xw9_16) (hts _ xw9_17) hs_6 (xat_NSE hE.1 _) xot_NSE hE.2.2.1 hE.2.2.2 hS (hl.1.trans hml.symm) dX8_needJudge_11 dX8_needJudge_14 dX8_needJudge_15 (Or.inr ⟨rfl, rfl⟩) dX8_needJudge_18 dX8_needJudge_21 (fun x hx9 => (hte x hx9).elim) (by decide) (Nat.le_of_ble_eq_true rfl) (Nat.le_of_ble_eq_true rfl) (Nat.le_of_ble_eq_true rfl) hlocks (fun t hW h1 h2 => ⟨(), trivial, rfl, Nat.le_trans hS.1 h1, fun q hq hn => (h2 q (Nat.lt_of_lt_of_le hq hS.1)).trans (hS.2.1 q hq hn)⟩) hS.2.2 (Nat.le_of_ble_eq_true rfl) (Nat.le_of_ble_eq_true rfl)
set_option maxHeartbeats 4000000 in
set_option maxRecDepth 100000 in
theorem c_X8_needTeam (l : Launch) (hst : l.stackTraces = false) (D : va_G) (K : Nat → ClassId) (h0 h1 h2 h3 h4 h5 h6 h7 a1 a2 a3 a4 a5 a6 : Nat) (sz : Nat) (p0 : Int32) : vx_Met l yX8_needTeam [.code yX8_needTeam cX8_needTeam 2 none] ({ frames := 6, cells := 1, slots := 6, locals := 82 }) (xPre D K [.ref h0, .int p0] [(h0, .inr (0, [.ref h1, .ref h2, .ref h3, .ref h4, .ref h5, .ref h6, .ref h7])), (h1, .inr (1, [.ref a1, .ref a2, .ref a3, .ref a4, .ref a5, .ref a6, .int 0, .int 0]))] sz) (va_Qv (fun (u : Unit) => False) (fun u t => xW D (va_A [(h0, .inr (0, [.ref h1, .ref h2, .ref h3, .ref h4, .ref h5, .ref h6, .ref h7])), (h1, .inr (1, [.ref a1, .ref a2, .ref a3, .ref a4, .ref a5, .ref a6, .int 0, .int 0]))] sz) ((fun (_ : Unit) => []) u) t) (va_A [(h0, .inr (0, [.ref h1, .ref h2, .ref h3, .ref h4, .ref h5, .ref h6, .ref h7])), (h1, .inr (1, [.ref a1, .ref a2, .ref a3, .ref a4, .ref a5, .ref a6, .int 0, .int 0]))] sz)) (vx_X (S := Unit) (fun _ => True) (fun E _ _ => (fun E => E = "java/util/NoSuchElementException") E) (va_A [(h0, .inr (0, [.ref h1, .ref h2, .ref h3, .ref h4, .ref h5, .ref h6, .ref h7])), (h1, .inr (1, [.ref a1, .ref a2, .ref a3, .ref a4, .ref a5, .ref a6, .int 0, .int 0]))] sz)) 1 6 (va_A [(h0, .inr (0, [.ref h1, .ref h2, .ref h3, .ref h4, .ref h5, .ref h6, .ref h7])), (h1, .inr (1, [.ref a1, .ref a2, .ref a3, .ref a4, .ref a5, .ref a6, .int 0, .int 0]))] sz) := by
  refine vx_ofW (cc := cX8_needTeam) (maxL := 2) (ret := none) (by decide) rfl ?_
  intro p e s m args below meth c s₁ B hml hte hv
  obtain ⟨rfl, hsz, hP, hD0, hE⟩ := hv
  have hx := B.exec
  have hb := B.bytes
  have hr := B.returns
  have hlocks := B.notSynchronized
  have hts := hE.1.ts ([.ref h0, .int p0] : List Value).toArray
  have hnt := hE.1.nt ([.ref h0, .int p0] : List Value).toArray
  have hK := hE.2.1
  have hown : s.vm.findClass RX8 = some m.cls := findClass_of_methodNamed B.named
  subst hsz
  have hD := hD0.self (sz := s.heap.size)
  generalize hAe : va_A [(h0, .inr (0, [.ref h1, .ref h2, .ref h3, .ref h4, .ref h5, .ref h6, .ref h7])), (h1, .inr (1, [.ref a1, .ref a2, .ref a3, .ref a4, .ref a5, .ref a6, .int 0, .int 0]))] s.heap.size = A at hD hE ⊢
  have hA : ∀ q : Nat, s.heap.size ≤ q → A q := fun q h => by rw [← hAe]; exact Or.inr h
  have hl := lv_entry ([.ref h0, .int p0]) (n := 2) (Nat.le_of_ble_eq_true rfl)
  rw [lg_entry_eq]
  generalize (lg_sl ([.ref h0, .int p0]) ++ List.replicate (2 - (lg_sl ([.ref h0, .int p0])).length) Slot.unset).toArray = ls at hl ⊢
  have hl : lv_has ls 2 [(0, .ref h0), (1, .int p0)] := hl
  generalize hH : s.heap = H at hP ⊢
  have hS : va_S A s.heap H [] := by rw [← hH]; exact va_S.rf
  refine lv_aload_n hx hb dX8_needTeam_0 rfl (lv_at hl 0 rfl) ?_
  refine va_get (D := D) (ci := 0) (v := .ref h1) (C := RX8) (T := TX8) (N := 7) hx hb hts inlX8 hown hK hP 0 rfl rfl 0 (by decide) (hts _ xw1_17) (fun _ h9 => h9) rfl dX8_needTeam_1 ?_
  refine lv_iload_n hx hb dX8_needTeam_4 rfl (lv_at hl 1 rfl) ?_
  have hF := va_free (wc := [(h1, .inr (1, [.ref a1, .ref a2, .ref a3, .ref a4, .ref a5, .ref a6, .int 0, .int 0]))]) hD hS hA [1] rfl
  refine xk_i (w1 := fun (_ : Unit) => []) (wc := [(h1, .inr (1, [.ref a1, .ref a2, .ref a3, .ref a4, .ref a5, .ref a6, .int 0, .int 0]))]) (wr := [(h0, .inr (0, [.ref h1, .ref h2, .ref h3, .ref h4, .ref h5, .ref h6, .ref h7]))]) (va_runV (As := [.int p0]) (rest := []) ⟨hx, hb, hml, hown, hts⟩ (c_X5_hasTeam l D K h1 a1 a2 a3 a4 a5 a6 H.size p0) (cwV 1 hts xg_RX8_X5_hasTeam_365 rfl rfl rfl (by decide +kernel) ⟨Nat.le_of_ble_eq_true rfl, Nat.le_of_ble_eq_true rfl⟩) ⟨xPre.blind, va_recv hK hP (ci := 1) (q0 := 1) rfl rfl, xPre.call hE hS (hP.sub [1] rfl) (hD.sub [1] (by decide) rfl) hF⟩ rfl rfl hl.1 rfl (lv_room (Nat.le_of_ble_eq_true rfl)) dX8_needTeam_5 ⟨Nat.le_of_ble_eq_true rfl, Nat.le_of_ble_eq_true rfl⟩) hP hD hS hF [1] [0] rfl rfl rfl (by decide) (fun r_2 u_1 H locs hw_3 hP hD hS => ?_)
  obtain rfl := hw_3
  have hP : va_P D xCl [(h0, .inr (0, [.ref h1, .ref h2, .ref h3, .ref h4, .ref h5, .ref h6, .ref h7]))] H := hP
  have hD : va_D A [(h0, .inr (0, [.ref h1, .ref h2, .ref h3, .ref h4, .ref h5, .ref h6, .ref h7]))] := hD
  refine lv_if_ne (tgt := 22) hx hb dX8_needTeam_8 (by decide) (fun c_4 => absurd (by decide) c_4) (fun _ => ?_)
  obtain ⟨sa_5, hs_6⟩ := hE.1.2.2.2.2.1 (368, "there is no such team") (List.mem_of_getElem? (i := 25) rfl)
  exact xthrowN (cls := "java/util/NoSuchElementException") (Y := "java/lang/RuntimeException") (names := ["java/lang/Exception"]) (ic := 210) (k0 := 13) (b0 := xb13) (w := 3) hx hb hst xb13_0 xb13_1 xb13_2 xb13_5 hown (by decide +kernel) (by decide +kernel) (by decide +kernel) (hts _ xw9_16) (hts _ xw9_17) hs_6 (xat_NSE hE.1 _) xot_NSE hE.2.2.1 hE.2.2.2 hS (hl.1.trans hml.symm) dX8_needTeam_11 dX8_needTeam_14 dX8_needTeam_15 (Or.inr ⟨rfl, rfl⟩) dX8_needTeam_18 dX8_needTeam_21 (fun x hx9 => (hte x hx9).elim) (by decide) (Nat.le_of_ble_eq_true rfl) (Nat.le_of_ble_eq_true rfl) (Nat.le_of_ble_eq_true rfl) hlocks (fun t hW h1 h2 => ⟨(), trivial, rfl, Nat.le_trans hS.1 h1, fun q hq hn => (h2 q (Nat.lt_of_lt_of_le hq hS.1)).trans (hS.2.1 q hq hn)⟩) hS.2.2 (Nat.le_of_ble_eq_true rfl) (Nat.le_of_ble_eq_true rfl)
set_option maxHeartbeats 4000000 in
set_option maxRecDepth 100000 in
theorem c_X8_addConflict (l : Launch) (hst : l.stackTraces = false) (D : va_G) (K : Nat → ClassId) (h0 h1 h2 h3 h4 h5 h6 h7 a1 a2 a3 a4 a5 a6 : Nat) (sz : Nat) (p0 p1 : Int32) : vx_Met l yX8_addConflict [.code yX8_addConflict cX8_addConflict 3 (some .int)] ({ frames := 7, cells := 1, slots := 6, locals := 103 }) (xPre D K [.ref h0, .int p0, .int p1] [(h0, .inr (0, [.ref h1, .ref h2, .ref h3, .ref h4, .ref h5, .ref h6, .ref h7])), (h1, .inr (1, [.ref a1, .ref a2, .ref a3, .ref a4, .ref a5, .ref a6, .int 0, .int 0]))] sz) (va_Qi (fun (r : Int32) (u : Unit) => False) (fun u t => xW D (va_A [(h0, .inr (0, [.ref h1, .ref h2, .ref h3, .ref h4, .ref h5, .ref h6, .ref h7])), (h1, .inr (1, [.ref a1, .ref a2, .ref a3, .ref a4, .ref a5, .ref a6, .int 0, .int 0]))] sz) ((fun (_ : Unit) => []) u) t) (va_A [(h0, .inr (0, [.ref h1, .ref h2, .ref h3, .ref h4, .ref h5, .ref h6, .ref h7])), (h1, .inr (1, [.ref a1, .ref a2, .ref a3, .ref a4, .ref a5, .ref a6, .int 0, .int 0]))] sz)) (vx_X (S := Unit) (fun _ => True) (fun E _ _ => (fun E => E = "java/util/NoSuchElementException") E) (va_A [(h0, .inr (0, [.ref h1, .ref h2, .ref h3, .ref h4, .ref h5, .ref h6, .ref h7])), (h1, .inr (1, [.ref a1, .ref a2, .ref a3, .ref a4, .ref a5, .ref a6, .int 0, .int 0]))] sz)) 1 6 (va_A [(h0, .inr (0, [.ref h1, .ref h2, .ref h3, .ref h4, .ref h5, .ref h6, .ref h7])), (h1, .inr (1, [.ref a1, .ref a2, .ref a3, .ref a4, .ref a5, .ref a6, .int 0, .int 0]))] sz) := by
  refine vx_ofW (cc := cX8_addConflict) (maxL := 3) (ret := (some .int)) (by decide) rfl ?_
  intro p e s m args below meth c s₁ B hml hte hv
  obtain ⟨rfl, hsz, hP, hD0, hE⟩ := hv
  have hx := B.exec
  have hb := B.bytes
  have hr := B.returns
  have hlocks := B.notSynchronized
  have hts := hE.1.ts ([.ref h0, .int p0, .int p1] : List Value).toArray
  have hnt := hE.1.nt ([.ref h0, .int p0, .int p1] : List Value).toArray
  have hK := hE.2.1
  have hown : s.vm.findClass RX8 = some m.cls := findClass_of_methodNamed B.named
  subst hsz
  have hD := hD0.self (sz := s.heap.size)
  generalize hAe : va_A [(h0, .inr (0, [.ref h1, .ref h2, .ref h3, .ref h4, .ref h5, .ref h6, .ref h7])), (h1, .inr (1, [.ref a1, .ref a2, .ref a3, .ref a4, .ref a5, .ref a6, .int 0, .int 0]))] s.heap.size = A at hD hE ⊢
  have hA : ∀ q : Nat, s.heap.size ≤ q → A q := fun q h => by rw [← hAe]; exact Or.inr h
  have hl := lv_entry ([.ref h0, .int p0, .int p1]) (n := 3) (Nat.le_of_ble_eq_true rfl)
  rw [lg_entry_eq]
  generalize (lg_sl ([.ref h0, .int p0, .int p1]) ++ List.replicate (3 - (lg_sl ([.ref h0, .int p0, .int p1])).length) Slot.unset).toArray = ls at hl ⊢
  have hl : lv_has ls 3 [(0, .ref h0), (1, .int p0), (2, .int p1)] := hl
  generalize hH : s.heap = H at hP ⊢
  have hS : va_S A s.heap H [] := by rw [← hH]; exact va_S.rf
  refine lv_aload_n hx hb dX8_addConflict_0 rfl (lv_at hl 0 rfl) ?_
  refine lv_iload_n hx hb dX8_addConflict_1 rfl (lv_at hl 1 rfl) ?_
  have hF := va_free (wc := [(h0, .inr (0, [.ref h1, .ref h2, .ref h3, .ref h4, .ref h5, .ref h6, .ref h7])), (h1, .inr (1, [.ref a1, .ref a2, .ref a3, .ref a4, .ref a5, .ref a6, .int 0, .int 0]))]) hD hS hA [0, 1] rfl
  refine xkx_v (px := fun E => E = "java/util/NoSuchElementException") (w1 := fun (_ : Unit) => []) (wc := [(h0, .inr (0, [.ref h1, .ref h2, .ref h3, .ref h4, .ref h5, .ref h6, .ref h7])), (h1, .inr (1, [.ref a1, .ref a2, .ref a3, .ref a4, .ref a5, .ref a6, .int 0, .int 0]))]) (wr := []) (vx_runV (As := [.int p0]) (rest := []) ⟨hx, hb, hml, hown, hts⟩ (c_X8_needJudge l hst D K h0 h1 h2 h3 h4 h5 h6 h7 a1 a2 a3 a4 a5 a6 H.size p0) (cwV 1 hts xg_RX8_X8_needJudge_99 rfl rfl rfl (by decide +kernel) ⟨Nat.le_of_ble_eq_true rfl, Nat.le_of_ble_eq_true rfl⟩) ⟨xPre.blind, va_recv hK hP (ci := 0) (q0 := 0) rfl rfl, xPre.call hE hS (hP.sub [0, 1] rfl) (hD.sub [0, 1] (by decide) rfl) hF⟩ rfl rfl hl.1 rfl (lv_room (Nat.le_of_ble_eq_true rfl)) dX8_addConflict_2 ⟨Nat.le_of_ble_eq_true rfl, Nat.le_of_ble_eq_true rfl⟩) hP hD hS hF [0, 1] [] rfl rfl rfl (by decide) (fun E9 ce9 q9 H locs hpx_4 hP hD hS hce hcv hcl => ?_) (fun u_1 H locs hw_3 hP hD hS => ?_)
  · obtain rfl := hpx_4
    exact vx_out (fun x hx9 => (hte x hx9).elim) hlocks hce hcv hcl (fun t ht hW => ⟨(), trivial, rfl, hS.F ht⟩) hS.2.2 (Nat.le_of_ble_eq_true rfl) (Nat.le_of_ble_eq_true rfl)
  · exact hw_3.elim
set_option maxHeartbeats 4000000 in
set_option maxRecDepth 100000 in
theorem c_X8_setPresent (l : Launch) (hst : l.stackTraces = false) (D : va_G) (K : Nat → ClassId) (h0 h1 h2 h3 h4 h5 h6 h7 a1 a2 a3 a4 a5 a6 : Nat) (sz : Nat) (p0 p1 : Int32) : vx_Met l yX8_setPresent [.code yX8_setPresent cX8_setPresent 4 (some .boolean)] ({ frames := 7, cells := 1, slots := 6, locals := 103 }) (xPre D K [.ref h0, .int p0, .int p1] [(h0, .inr (0, [.ref h1, .ref h2, .ref h3, .ref h4, .ref h5, .ref h6, .ref h7])), (h1, .inr (1, [.ref a1, .ref a2, .ref a3, .ref a4, .ref a5, .ref a6, .int 0, .int 0]))] sz) (va_Qi (fun (r : Int32) (u : Unit) => False) (fun u t => xW D (va_A [(h0, .inr (0, [.ref h1, .ref h2, .ref h3, .ref h4, .ref h5, .ref h6, .ref h7])), (h1, .inr (1, [.ref a1, .ref a2, .ref a3, .ref a4, .ref a5, .ref a6, .int 0, .int 0]))] sz) ((fun (_ : Unit) => []) u) t) (va_A [(h0, .inr (0, [.ref h1, .ref h2, .ref h3, .ref h4, .ref h5, .ref h6, .ref h7])), (h1, .inr (1, [.ref a1, .ref a2, .ref a3, .ref a4, .ref a5, .ref a6, .int 0, .int 0]))] sz)) (vx_X (S := Unit) (fun _ => True) (fun E _ _ => (fun E => E = "java/util/NoSuchElementException") E) (va_A [(h0, .inr (0, [.ref h1, .ref h2, .ref h3, .ref h4, .ref h5, .ref h6, .ref h7])), (h1, .inr (1, [.ref a1, .ref a2, .ref a3, .ref a4, .ref a5, .ref a6, .int 0, .int 0]))] sz)) 1 6 (va_A [(h0, .inr (0, [.ref h1, .ref h2, .ref h3, .ref h4, .ref h5, .ref h6, .ref h7])), (h1, .inr (1, [.ref a1, .ref a2, .ref a3, .ref a4, .ref a5, .ref a6, .int 0, .int 0]))] sz) := by
  refine vx_ofW (cc := cX8_setPresent) (maxL := 4) (ret := (some .boolean)) (by decide) rfl ?_
  intro p e s m args below meth c s₁ B hml hte hv
  obtain ⟨rfl, hsz, hP, hD0, hE⟩ := hv
  have hx := B.exec
  have hb := B.bytes
  have hr := B.returns
  have hlocks := B.notSynchronized
  have hts := hE.1.ts ([.ref h0, .int p0, .int p1] : List Value).toArray
  have hnt := hE.1.nt ([.ref h0, .int p0, .int p1] : List Value).toArray
  have hK := hE.2.1
  have hown : s.vm.findClass RX8 = some m.cls := findClass_of_methodNamed B.named
  subst hsz
  have hD := hD0.self (sz := s.heap.size)
  generalize hAe : va_A [(h0, .inr (0, [.ref h1, .ref h2, .ref h3, .ref h4, .ref h5, .ref h6, .ref h7])), (h1, .inr (1, [.ref a1, .ref a2, .ref a3, .ref a4, .ref a5, .ref a6, .int 0, .int 0]))] s.heap.size = A at hD hE ⊢
  have hA : ∀ q : Nat, s.heap.size ≤ q → A q := fun q h => by rw [← hAe]; exact Or.inr h
  have hl := lv_entry ([.ref h0, .int p0, .int p1]) (n := 4) (Nat.le_of_ble_eq_true rfl)
  rw [lg_entry_eq]
  generalize (lg_sl ([.ref h0, .int p0, .int p1]) ++ List.replicate (4 - (lg_sl ([.ref h0, .int p0, .int p1])).length) Slot.unset).toArray = ls at hl ⊢
  have hl : lv_has ls 4 [(0, .ref h0), (1, .int p0), (2, .int p1)] := hl
  generalize hH : s.heap = H at hP ⊢
  have hS : va_S A s.heap H [] := by rw [← hH]; exact va_S.rf
  refine lv_aload_n hx hb dX8_setPresent_0 rfl (lv_at hl 0 rfl) ?_
  refine lv_iload_n hx hb dX8_setPresent_1 rfl (lv_at hl 1 rfl) ?_
  have hF := va_free (wc := [(h0, .inr (0, [.ref h1, .ref h2, .ref h3, .ref h4, .ref h5, .ref h6, .ref h7])), (h1, .inr (1, [.ref a1, .ref a2, .ref a3, .ref a4, .ref a5, .ref a6, .int 0, .int 0]))]) hD hS hA [0, 1] rfl
  refine xkx_v (px := fun E => E = "java/util/NoSuchElementException") (w1 := fun (_ : Unit) => []) (wc := [(h0, .inr (0, [.ref h1, .ref h2, .ref h3, .ref h4, .ref h5, .ref h6, .ref h7])), (h1, .inr (1, [.ref a1, .ref a2, .ref a3, .ref a4, .ref a5, .ref a6, .int 0, .int 0]))]) (wr := []) (vx_runV (As := [.int p0]) (rest := []) ⟨hx, hb, hml, hown, hts⟩ (c_X8_needTeam l hst D K h0 h1 h2 h3 h4 h5 h6 h7 a1 a2 a3 a4 a5 a6 H.size p0) (cwV 1 hts xg_RX8_X8_needTeam_103 rfl rfl rfl (by decide +kernel) ⟨Nat.le_of_ble_eq_true rfl, Nat.le_of_ble_eq_true rfl⟩) ⟨xPre.blind, va_recv hK hP (ci := 0) (q0 := 0) rfl rfl, xPre.call hE hS (hP.sub [0, 1] rfl) (hD.sub [0, 1] (by decide) rfl) hF⟩ rfl rfl hl.1 rfl (lv_room (Nat.le_of_ble_eq_true rfl)) dX8_setPresent_2 ⟨Nat.le_of_ble_eq_true rfl, Nat.le_of_ble_eq_true rfl⟩) hP hD hS hF [0, 1] [] rfl rfl rfl (by decide) (fun E9 ce9 q9 H locs hpx_4 hP hD hS hce hcv hcl => ?_) (fun u_1 H locs hw_3 hP hD hS => ?_)
  · obtain rfl := hpx_4
    exact vx_out (fun x hx9 => (hte x hx9).elim) hlocks hce hcv hcl (fun t ht hW => ⟨(), trivial, rfl, hS.F ht⟩) hS.2.2 (Nat.le_of_ble_eq_true rfl) (Nat.le_of_ble_eq_true rfl)
  · exact hw_3.elim
set_option maxHeartbeats 4000000 in
set_option maxRecDepth 100000 in
theorem c_X8_setIron (l : Launch) (hst : l.stackTraces = false) (D : va_G) (K : Nat → ClassId) (h0 h1 h2 h3 h4 h5 h6 h7 a1 a2 a3 a4 a5 a6 : Nat) (sz : Nat) (p0 p1 : Int32) : vx_Met l yX8_setIron [.code yX8_setIron cX8_setIron 4 (some .int)] ({ frames := 7, cells := 1, slots := 6, locals := 103 }) (xPre D K [.ref h0, .int p0, .int p1] [(h0, .inr (0, [.ref h1, .ref h2, .ref h3, .ref h4, .ref h5, .ref h6, .ref h7])), (h1, .inr (1, [.ref a1, .ref a2, .ref a3, .ref a4, .ref a5, .ref a6, .int 0, .int 0]))] sz) (va_Qi (fun (r : Int32) (u : Unit) => False) (fun u t => xW D (va_A [(h0, .inr (0, [.ref h1, .ref h2, .ref h3, .ref h4, .ref h5, .ref h6, .ref h7])), (h1, .inr (1, [.ref a1, .ref a2, .ref a3, .ref a4, .ref a5, .ref a6, .int 0, .int 0]))] sz) ((fun (_ : Unit) => []) u) t) (va_A [(h0, .inr (0, [.ref h1, .ref h2, .ref h3, .ref h4, .ref h5, .ref h6, .ref h7])), (h1, .inr (1, [.ref a1, .ref a2, .ref a3, .ref a4, .ref a5, .ref a6, .int 0, .int 0]))] sz)) (vx_X (S := Unit) (fun _ => True) (fun E _ _ => (fun E => E = "java/util/NoSuchElementException") E) (va_A [(h0, .inr (0, [.ref h1, .ref h2, .ref h3, .ref h4, .ref h5, .ref h6, .ref h7])), (h1, .inr (1, [.ref a1, .ref a2, .ref a3, .ref a4, .ref a5, .ref a6, .int 0, .int 0]))] sz)) 1 6 (va_A [(h0, .inr (0, [.ref h1, .ref h2, .ref h3, .ref h4, .ref h5, .ref h6, .ref h7])), (h1, .inr (1, [.ref a1, .ref a2, .ref a3, .ref a4, .ref a5, .ref a6, .int 0, .int 0]))] sz) := by
  refine vx_ofW (cc := cX8_setIron) (maxL := 4) (ret := (some .int)) (by decide) rfl ?_
  intro p e s m args below meth c s₁ B hml hte hv
  obtain ⟨rfl, hsz, hP, hD0, hE⟩ := hv
  have hx := B.exec
  have hb := B.bytes
  have hr := B.returns
  have hlocks := B.notSynchronized
  have hts := hE.1.ts ([.ref h0, .int p0, .int p1] : List Value).toArray
  have hnt := hE.1.nt ([.ref h0, .int p0, .int p1] : List Value).toArray
  have hK := hE.2.1
  have hown : s.vm.findClass RX8 = some m.cls := findClass_of_methodNamed B.named
  subst hsz
  have hD := hD0.self (sz := s.heap.size)
  generalize hAe : va_A [(h0, .inr (0, [.ref h1, .ref h2, .ref h3, .ref h4, .ref h5, .ref h6, .ref h7])), (h1, .inr (1, [.ref a1, .ref a2, .ref a3, .ref a4, .ref a5, .ref a6, .int 0, .int 0]))] s.heap.size = A at hD hE ⊢
  have hA : ∀ q : Nat, s.heap.size ≤ q → A q := fun q h => by rw [← hAe]; exact Or.inr h
  have hl := lv_entry ([.ref h0, .int p0, .int p1]) (n := 4) (Nat.le_of_ble_eq_true rfl)
  rw [lg_entry_eq]
  generalize (lg_sl ([.ref h0, .int p0, .int p1]) ++ List.replicate (4 - (lg_sl ([.ref h0, .int p0, .int p1])).length) Slot.unset).toArray = ls at hl ⊢
  have hl : lv_has ls 4 [(0, .ref h0), (1, .int p0), (2, .int p1)] := hl
  generalize hH : s.heap = H at hP ⊢
  have hS : va_S A s.heap H [] := by rw [← hH]; exact va_S.rf
  refine lv_aload_n hx hb dX8_setIron_0 rfl (lv_at hl 0 rfl) ?_
  refine lv_iload_n hx hb dX8_setIron_1 rfl (lv_at hl 1 rfl) ?_
  have hF := va_free (wc := [(h0, .inr (0, [.ref h1, .ref h2, .ref h3, .ref h4, .ref h5, .ref h6, .ref h7])), (h1, .inr (1, [.ref a1, .ref a2, .ref a3, .ref a4, .ref a5, .ref a6, .int 0, .int 0]))]) hD hS hA [0, 1] rfl
  refine xkx_v (px := fun E => E = "java/util/NoSuchElementException") (w1 := fun (_ : Unit) => []) (wc := [(h0, .inr (0, [.ref h1, .ref h2, .ref h3, .ref h4, .ref h5, .ref h6, .ref h7])), (h1, .inr (1, [.ref a1, .ref a2, .ref a3, .ref a4, .ref a5, .ref a6, .int 0, .int 0]))]) (wr := []) (vx_runV (As := [.int p0]) (rest := []) ⟨hx, hb, hml, hown, hts⟩ (c_X8_needTeam l hst D K h0 h1 h2 h3 h4 h5 h6 h7 a1 a2 a3 a4 a5 a6 H.size p0) (cwV 1 hts xg_RX8_X8_needTeam_103 rfl rfl rfl (by decide +kernel) ⟨Nat.le_of_ble_eq_true rfl, Nat.le_of_ble_eq_true rfl⟩) ⟨xPre.blind, va_recv hK hP (ci := 0) (q0 := 0) rfl rfl, xPre.call hE hS (hP.sub [0, 1] rfl) (hD.sub [0, 1] (by decide) rfl) hF⟩ rfl rfl hl.1 rfl (lv_room (Nat.le_of_ble_eq_true rfl)) dX8_setIron_2 ⟨Nat.le_of_ble_eq_true rfl, Nat.le_of_ble_eq_true rfl⟩) hP hD hS hF [0, 1] [] rfl rfl rfl (by decide) (fun E9 ce9 q9 H locs hpx_4 hP hD hS hce hcv hcl => ?_) (fun u_1 H locs hw_3 hP hD hS => ?_)
  · obtain rfl := hpx_4
    exact vx_out (fun x hx9 => (hte x hx9).elim) hlocks hce hcv hcl (fun t ht hW => ⟨(), trivial, rfl, hS.F ht⟩) hS.2.2 (Nat.le_of_ble_eq_true rfl) (Nat.le_of_ble_eq_true rfl)
  · exact hw_3.elim
set_option maxHeartbeats 4000000 in
set_option maxRecDepth 100000 in
theorem c_X5_presentTeams (l : Launch) (D : va_G) (K : Nat → ClassId) (h1 a1 a2 a3 a4 a5 a6 : Nat) (sz : Nat) : Met l yX5_presentTeams [.code yX5_presentTeams cX5_presentTeams 3 (some .int)] ({ frames := 0, cells := 0, slots := 0, locals := 0 }) (xPre D K [.ref h1] [(h1, .inr (1, [.ref a1, .ref a2, .ref a3, .ref a4, .ref a5, .ref a6, .int 0, .int 0]))] sz) (va_Qi (fun (r : Int32) (u : Unit) => r = 0) (fun u t => xW D (va_A [(h1, .inr (1, [.ref a1, .ref a2, .ref a3, .ref a4, .ref a5, .ref a6, .int 0, .int 0]))] sz) ((fun (_ : Unit) => []) u) t) (va_A [(h1, .inr (1, [.ref a1, .ref a2, .ref a3, .ref a4, .ref a5, .ref a6, .int 0, .int 0]))] sz)) 0 0 (va_A [(h1, .inr (1, [.ref a1, .ref a2, .ref a3, .ref a4, .ref a5, .ref a6, .int 0, .int 0]))] sz) := by
  refine Met.ofW (cc := cX5_presentTeams) (maxL := 3) (ret := (some .int)) (by decide) rfl ?_
  intro p e s m args below meth c s₁ B hml hv
  obtain ⟨rfl, hsz, hP, hD0, hE⟩ := hv
  have hx := B.exec
  have hb := B.bytes
  have hr := B.returns
  have hlocks := B.notSynchronized
  have hts := hE.1.ts ([.ref h1] : List Value).toArray
  have hnt := hE.1.nt ([.ref h1] : List Value).toArray
  have hK := hE.2.1
  have hown : s.vm.findClass RX5 = some m.cls := findClass_of_methodNamed B.named
  subst hsz
  have hD := hD0.self (sz := s.heap.size)
  generalize hAe : va_A [(h1, .inr (1, [.ref a1, .ref a2, .ref a3, .ref a4, .ref a5, .ref a6, .int 0, .int 0]))] s.heap.size = A at hD hE ⊢
  have hA : ∀ q : Nat, s.heap.size ≤ q → A q := fun q h => by rw [← hAe]; exact Or.inr h
  have hl := lv_entry ([.ref h1]) (n := 3) (Nat.le_of_ble_eq_true rfl)
  rw [lg_entry_eq]
  generalize (lg_sl ([.ref h1]) ++ List.replicate (3 - (lg_sl ([.ref h1])).length) Slot.unset).toArray = ls at hl ⊢
  have hl : lv_has ls 3 [(0, .ref h1)] := hl
  generalize hH : s.heap = H at hP ⊢
  have hS : va_S A s.heap H [] := by rw [← hH]; exact va_S.rf
  refine lv_iconst (v := 0) hx hb dX5_presentTeams_0 (by decide) ?_
  refine lv_istore_n (lv' := [(1, .int 0), (0, .ref h1)]) hx hb dX5_presentTeams_1 rfl hl (by decide) rfl (fun ls hl => ?_)
  refine lv_iconst (v := 0) hx hb dX5_presentTeams_2 (by decide) ?_
  refine lv_istore_n (lv' := [(2, .int 0), (1, .int 0), (0, .ref h1)]) hx hb dX5_presentTeams_3 rfl hl (by decide) rfl (fun ls hl => ?_)
  refine lv_iload_n hx hb dX5_presentTeams_4 rfl (lv_at hl 0 rfl) ?_
  refine lv_aload_n hx hb dX5_presentTeams_5 rfl (lv_at hl 2 rfl) ?_
  refine va_get (D := D) (ci := 1) (v := .int 0) (C := RX5) (T := TX5) (N := 8) hx hb hts inlX5 hown hK hP 0 rfl rfl 6 (by decide) (hts _ xw7_21) (fun _ h9 => h9) rfl dX5_presentTeams_6 ?_
  refine lv_icmp_ge (tgt := 30) hx hb dX5_presentTeams_9 (by decide) (fun _ => ?_) (fun c_1 => absurd (by decide) c_1)
  refine lv_iload_n hx hb dX5_presentTeams_30 rfl (lv_at hl 1 rfl) ?_
  have hP9 : va_P D xCl [] H := hP.sub [] rfl
  have hD9 : va_D A [] := hD.sub [] (by decide) rfl
  refine W.widen (k := 0) (n := 0) (Nat.le_of_ble_eq_true rfl) (Nat.le_of_ble_eq_true rfl) ?_
  exact W.iret (v := 0) hx hb hr (fun t ht hW => ⟨⟨0, (), rfl, rfl, by rw [ht]; exact hP9, hD9⟩, hS.F ht⟩) hS.2.2 dX5_presentTeams_31
set_option maxHeartbeats 4000000 in
set_option maxRecDepth 100000 in
theorem c_X8_draw (l : Launch) (hst : l.stackTraces = false) (D : va_G) (K : Nat → ClassId) (h0 h1 h2 h3 h4 h5 h6 h7 a1 a2 a3 a4 a5 a6 c1 : Nat) (sz : Nat) : vx_Met l yX8_draw [.code yX8_draw cX8_draw 3 (some .int)] ({ frames := 6, cells := 1, slots := 6, locals := 82 }) (xPre D K [.ref h0] [(h0, .inr (0, [.ref h1, .ref h2, .ref h3, .ref h4, .ref h5, .ref h6, .ref h7])), (h1, .inr (1, [.ref a1, .ref a2, .ref a3, .ref a4, .ref a5, .ref a6, .int 0, .int 0])), (h3, .inr (3, [.ref h1, .ref c1, .int 0]))] sz) (va_Qi (fun (r : Int32) (u : Unit) => False) (fun u t => xW D (va_A [(h0, .inr (0, [.ref h1, .ref h2, .ref h3, .ref h4, .ref h5, .ref h6, .ref h7])), (h1, .inr (1, [.ref a1, .ref a2, .ref a3, .ref a4, .ref a5, .ref a6, .int 0, .int 0])), (h3, .inr (3, [.ref h1, .ref c1, .int 0]))] sz) ((fun (_ : Unit) => []) u) t) (va_A [(h0, .inr (0, [.ref h1, .ref h2, .ref h3, .ref h4, .ref h5, .ref h6, .ref h7])), (h1, .inr (1, [.ref a1, .ref a2, .ref a3, .ref a4, .ref a5, .ref a6, .int 0, .int 0])), (h3, .inr (3, [.ref h1, .ref c1, .int 0]))] sz)) (vx_X (S := Unit) (fun _ => True) (fun E _ _ => (fun E => E = "java/lang/IllegalStateException") E) (va_A [(h0, .inr (0, [.ref h1, .ref h2, .ref h3, .ref h4, .ref h5, .ref h6, .ref h7])), (h1, .inr (1, [.ref a1, .ref a2, .ref a3, .ref a4, .ref a5, .ref a6, .int 0, .int 0])), (h3, .inr (3, [.ref h1, .ref c1, .int 0]))] sz)) 1 6 (va_A [(h0, .inr (0, [.ref h1, .ref h2, .ref h3, .ref h4, .ref h5, .ref h6, .ref h7])), (h1, .inr (1, [.ref a1, .ref a2, .ref a3, .ref a4, .ref a5, .ref a6, .int 0, .int 0])), (h3, .inr (3, [.ref h1, .ref c1, .int 0]))] sz) := by
  refine vx_ofW (cc := cX8_draw) (maxL := 3) (ret := (some .int)) (by decide) rfl ?_
  intro p e s m args below meth c s₁ B hml hte hv
  obtain ⟨rfl, hsz, hP, hD0, hE⟩ := hv
  have hx := B.exec
  have hb := B.bytes
  have hr := B.returns
  have hlocks := B.notSynchronized
  have hts := hE.1.ts ([.ref h0] : List Value).toArray
  have hnt := hE.1.nt ([.ref h0] : List Value).toArray
  have hK := hE.2.1
  have hown : s.vm.findClass RX8 = some m.cls := findClass_of_methodNamed B.named
  subst hsz
  have hD := hD0.self (sz := s.heap.size)
  generalize hAe : va_A [(h0, .inr (0, [.ref h1, .ref h2, .ref h3, .ref h4, .ref h5, .ref h6, .ref h7])), (h1, .inr (1, [.ref a1, .ref a2, .ref a3, .ref a4, .ref a5, .ref a6, .int 0, .int 0])), (h3, .inr (3, [.ref h1, .ref c1, .int 0]))] s.heap.size = A at hD hE ⊢
  have hA : ∀ q : Nat, s.heap.size ≤ q → A q := fun q h => by rw [← hAe]; exact Or.inr h
  have hl := lv_entry ([.ref h0]) (n := 3) (Nat.le_of_ble_eq_true rfl)
  rw [lg_entry_eq]
  generalize (lg_sl ([.ref h0]) ++ List.replicate (3 - (lg_sl ([.ref h0])).length) Slot.unset).toArray = ls at hl ⊢
  have hl : lv_has ls 3 [(0, .ref h0)] := hl
  generalize hH : s.heap = H at hP ⊢
  have hS : va_S A s.heap H [] := by rw [← hH]; exact va_S.rf
  refine lv_aload_n hx hb dX8_draw_0 rfl (lv_at hl 0 rfl) ?_
  refine va_get (D := D) (ci := 0) (v := .ref h3) (C := RX8) (T := TX8) (N := 7) hx hb hts inlX8 hown hK hP 0 rfl rfl 2 (by decide) (hts _ xw2_1) (fun _ h9 => h9) rfl dX8_draw_1 ?_
  refine va_getN (D := D) (ci := 3) (v := .int 0) (C := RX1) (T := TX1) (N := 3) hx hb hts inlX1 hown hK hP 2 rfl rfl 2 (by decide) (hnt _ xn36) (fun _ h9 => h9) rfl dX8_draw_4 ?_
  refine lv_bipush (v := 6) hx hb dX8_draw_7 (by decide) ?_
  refine lv_icmp_lt (tgt := 22) hx hb dX8_draw_9 (by decide) (fun _ => ?_) (fun c_1 => absurd (by decide) c_1)
  refine lv_aload_n hx hb dX8_draw_22 rfl (lv_at hl 0 rfl) ?_
  refine va_get (D := D) (ci := 0) (v := .ref h3) (C := RX8) (T := TX8) (N := 7) hx hb hts inlX8 hown hK hP 0 rfl rfl 2 (by decide) (hts _ xw2_1) (fun _ h9 => h9) rfl dX8_draw_23 ?_
  refine va_getN (D := D) (ci := 3) (v := .int 0) (C := RX1) (T := TX1) (N := 3) hx hb hts inlX1 hown hK hP 2 rfl rfl 2 (by decide) (hnt _ xn36) (fun _ h9 => h9) rfl dX8_draw_26 ?_
  refine lv_if_le (tgt := 55) hx hb dX8_draw_29 (by decide) (fun _ => ?_) (fun c_2 => absurd (by decide) c_2)
  refine lv_aload_n hx hb dX8_draw_55 rfl (lv_at hl 0 rfl) ?_
  refine va_get (D := D) (ci := 0) (v := .ref h1) (C := RX8) (T := TX8) (N := 7) hx hb hts inlX8 hown hK hP 0 rfl rfl 0 (by decide) (hts _ xw1_17) (fun _ h9 => h9) rfl dX8_draw_56 ?_
  have hF := va_free (wc := [(h1, .inr (1, [.ref a1, .ref a2, .ref a3, .ref a4, .ref a5, .ref a6, .int 0, .int 0]))]) hD hS hA [1] rfl
  refine xk_i (w1 := fun (_ : Unit) => []) (wc := [(h1, .inr (1, [.ref a1, .ref a2, .ref a3, .ref a4, .ref a5, .ref a6, .int 0, .int 0]))]) (wr := [(h0, .inr (0, [.ref h1, .ref h2, .ref h3, .ref h4, .ref h5, .ref h6, .ref h7])), (h3, .inr (3, [.ref h1, .ref c1, .int 0]))]) (va_runV (As := []) (rest := []) ⟨hx, hb, hml, hown, hts⟩ (c_X5_presentTeams l D K h1 a1 a2 a3 a4 a5 a6 H.size) (cwV 0 hts xg_RX8_X5_presentTeams_147 rfl rfl rfl (by decide +kernel) ⟨Nat.le_of_ble_eq_true rfl, Nat.le_of_ble_eq_true rfl⟩) ⟨xPre.blind, va_recv hK hP (ci := 1) (q0 := 1) rfl rfl, xPre.call hE hS (hP.sub [1] rfl) (hD.sub [1] (by decide) rfl) hF⟩ rfl rfl hl.1 rfl (lv_room (Nat.le_of_ble_eq_true rfl)) dX8_draw_59 ⟨Nat.le_of_ble_eq_true rfl, Nat.le_of_ble_eq_true rfl⟩) hP hD hS hF [1] [0, 2] rfl rfl rfl (by decide) (fun r_4 u_3 H locs hw_5 hP hD hS => ?_)
  obtain rfl := hw_5
  have hP : va_P D xCl [(h0, .inr (0, [.ref h1, .ref h2, .ref h3, .ref h4, .ref h5, .ref h6, .ref h7])), (h3, .inr (3, [.ref h1, .ref c1, .int 0]))] H := hP
  have hD : va_D A [(h0, .inr (0, [.ref h1, .ref h2, .ref h3, .ref h4, .ref h5, .ref h6, .ref h7])), (h3, .inr (3, [.ref h1, .ref c1, .int 0]))] := hD
  refine lv_istore_n (lv' := [(1, .int 0), (0, .ref h0)]) hx hb dX8_draw_62 rfl hl (by decide) rfl (fun ls hl => ?_)
  refine lv_iload_n hx hb dX8_draw_63 rfl (lv_at hl 0 rfl) ?_
  refine lv_if_eq (tgt := 73) hx hb dX8_draw_64 (by decide) (fun _ => ?_) (fun c_6 => absurd (by decide) c_6)
  obtain ⟨sa_7, hs_8⟩ := hE.1.2.2.2.2.1 (150, "the number of present teams is odd or 0") (List.mem_of_getElem? (i := 7) rfl)
  exact vx_throwS (cls := "java/lang/IllegalStateException") (names := ["java/lang/RuntimeException", "java/lang/Exception"]) (ic := 83) hx hb hst hown (by decide +kernel) (by decide +kernel) (hts _ xw7_12) (hts _ xw7_13) hs_8 (xat_ISE hE.1 _) xot_ISE hE.2.2.1 hE.2.2.2 hS (hl.1.trans hml.symm) dX8_draw_73 dX8_draw_76 dX8_draw_77 dX8_draw_79 dX8_draw_82 (fun x hx9 => (hte x hx9).elim) (by decide) (Nat.le_of_ble_eq_true rfl) (Nat.le_of_ble_eq_true rfl) (Nat.le_of_ble_eq_true rfl) hlocks (fun t hW h1 h2 => ⟨(), trivial, rfl, Nat.le_trans hS.1 h1, fun q hq hn => (h2 q (Nat.lt_of_lt_of_le hq hS.1)).trans (hS.2.1 q hq hn)⟩) hS.2.2 (Nat.le_of_ble_eq_true rfl) (Nat.le_of_ble_eq_true rfl)
set_option maxHeartbeats 4000000 in
set_option maxRecDepth 100000 in
theorem c_X8_needAnyRound (l : Launch) (hst : l.stackTraces = false) (D : va_G) (K : Nat → ClassId) (h0 h1 h2 h3 h4 h5 h6 h7 c1 : Nat) (sz : Nat) : vx_Met l yX8_needAnyRound [.code yX8_needAnyRound cX8_needAnyRound 1 none] ({ frames := 6, cells := 1, slots := 6, locals := 82 }) (xPre D K [.ref h0] [(h0, .inr (0, [.ref h1, .ref h2, .ref h3, .ref h4, .ref h5, .ref h6, .ref h7])), (h3, .inr (3, [.ref h1, .ref c1, .int 0]))] sz) (va_Qv (fun (u : Unit) => False) (fun u t => xW D (va_A [(h0, .inr (0, [.ref h1, .ref h2, .ref h3, .ref h4, .ref h5, .ref h6, .ref h7])), (h3, .inr (3, [.ref h1, .ref c1, .int 0]))] sz) ((fun (_ : Unit) => []) u) t) (va_A [(h0, .inr (0, [.ref h1, .ref h2, .ref h3, .ref h4, .ref h5, .ref h6, .ref h7])), (h3, .inr (3, [.ref h1, .ref c1, .int 0]))] sz)) (vx_X (S := Unit) (fun _ => True) (fun E _ _ => (fun E => E = "java/lang/IllegalStateException") E) (va_A [(h0, .inr (0, [.ref h1, .ref h2, .ref h3, .ref h4, .ref h5, .ref h6, .ref h7])), (h3, .inr (3, [.ref h1, .ref c1, .int 0]))] sz)) 1 6 (va_A [(h0, .inr (0, [.ref h1, .ref h2, .ref h3, .ref h4, .ref h5, .ref h6, .ref h7])), (h3, .inr (3, [.ref h1, .ref c1, .int 0]))] sz) := by
  refine vx_ofW (cc := cX8_needAnyRound) (maxL := 1) (ret := none) (by decide) rfl ?_
  intro p e s m args below meth c s₁ B hml hte hv
  obtain ⟨rfl, hsz, hP, hD0, hE⟩ := hv
  have hx := B.exec
  have hb := B.bytes
  have hr := B.returns
  have hlocks := B.notSynchronized
  have hts := hE.1.ts ([.ref h0] : List Value).toArray
  have hnt := hE.1.nt ([.ref h0] : List Value).toArray
  have hK := hE.2.1
  have hown : s.vm.findClass RX8 = some m.cls := findClass_of_methodNamed B.named
  subst hsz
  have hD := hD0.self (sz := s.heap.size)
  generalize hAe : va_A [(h0, .inr (0, [.ref h1, .ref h2, .ref h3, .ref h4, .ref h5, .ref h6, .ref h7])), (h3, .inr (3, [.ref h1, .ref c1, .int 0]))] s.heap.size = A at hD hE ⊢
  have hA : ∀ q : Nat, s.heap.size ≤ q → A q := fun q h => by rw [← hAe]; exact Or.inr h
  have hl := lv_entry ([.ref h0]) (n := 1) (Nat.le_of_ble_eq_true rfl)
  rw [lg_entry_eq]
  generalize (lg_sl ([.ref h0]) ++ List.replicate (1 - (lg_sl ([.ref h0])).length) Slot.unset).toArray = ls at hl ⊢
  have hl : lv_has ls 1 [(0, .ref h0)] := hl
  generalize hH : s.heap = H at hP ⊢
  have hS : va_S A s.heap H [] := by rw [← hH]; exact va_S.rf
  refine lv_aload_n hx hb dX8_needAnyRound_0 rfl (lv_at hl 0 rfl) ?_
  refine va_get (D := D) (ci := 0) (v := .ref h3) (C := RX8) (T := TX8) (N := 7) hx hb hts inlX8 hown hK hP 0 rfl rfl 2 (by decide) (hts _ xw2_1) (fun _ h9 => h9) rfl dX8_needAnyRound_1 ?_
  refine va_getN (D := D) (ci := 3) (v := .int 0) (C := RX1) (T := TX1) (N := 3) hx hb hts inlX1 hown hK hP 1 rfl rfl 2 (by decide) (hnt _ xn36) (fun _ h9 => h9) rfl dX8_needAnyRound_4 ?_
  refine lv_if_ne (tgt := 21) hx hb dX8_needAnyRound_7 (by decide) (fun c_1 => absurd (by decide) c_1) (fun _ => ?_)
  obtain ⟨sa_2, hs_3⟩ := hE.1.2.2.2.2.1 (377, "no round has been drawn") (List.mem_of_getElem? (i := 28) rfl)
  exact vx_throwSW (cls := "java/lang/IllegalStateException") (names := ["java/lang/RuntimeException", "java/lang/Exception"]) (ic := 83) hx hb hst hown (by decide +kernel) (by decide +kernel) (hts _ xw7_12) (hts _ xw7_13) hs_3 (xat_ISE hE.1 _) xot_ISE hE.2.2.1 hE.2.2.2 hS (hl.1.trans hml.symm) dX8_needAnyRound_10 dX8_needAnyRound_13 dX8_needAnyRound_14 dX8_needAnyRound_17 dX8_needAnyRound_20 (fun x hx9 => (hte x hx9).elim) (by decide) (Nat.le_of_ble_eq_true rfl) (Nat.le_of_ble_eq_true rfl) (Nat.le_of_ble_eq_true rfl) hlocks (fun t hW h1 h2 => ⟨(), trivial, rfl, Nat.le_trans hS.1 h1, fun q hq hn => (h2 q (Nat.lt_of_lt_of_le hq hS.1)).trans (hS.2.1 q hq hn)⟩) hS.2.2 (Nat.le_of_ble_eq_true rfl) (Nat.le_of_ble_eq_true rfl)
set_option maxHeartbeats 4000000 in
set_option maxRecDepth 100000 in
theorem c_X8_ballot (l : Launch) (hst : l.stackTraces = false) (D : va_G) (K : Nat → ClassId) (h0 h1 h2 h3 h4 h5 h6 h7 c1 : Nat) (sz : Nat) (p0 p1 p2 p3 p4 : Int32) : vx_Met l yX8_ballot [.code yX8_ballot cX8_ballot 11 (some .int)] ({ frames := 7, cells := 1, slots := 6, locals := 102 }) (xPre D K [.ref h0, .int p0, .int p1, .int p2, .int p3, .int p4] [(h0, .inr (0, [.ref h1, .ref h2, .ref h3, .ref h4, .ref h5, .ref h6, .ref h7])), (h3, .inr (3, [.ref h1, .ref c1, .int 0]))] sz) (va_Qi (fun (r : Int32) (u : Unit) => False) (fun u t => xW D (va_A [(h0, .inr (0, [.ref h1, .ref h2, .ref h3, .ref h4, .ref h5, .ref h6, .ref h7])), (h3, .inr (3, [.ref h1, .ref c1, .int 0]))] sz) ((fun (_ : Unit) => []) u) t) (va_A [(h0, .inr (0, [.ref h1, .ref h2, .ref h3, .ref h4, .ref h5, .ref h6, .ref h7])), (h3, .inr (3, [.ref h1, .ref c1, .int 0]))] sz)) (vx_X (S := Unit) (fun _ => True) (fun E _ _ => (fun E => E = "java/lang/IllegalStateException") E) (va_A [(h0, .inr (0, [.ref h1, .ref h2, .ref h3, .ref h4, .ref h5, .ref h6, .ref h7])), (h3, .inr (3, [.ref h1, .ref c1, .int 0]))] sz)) 1 6 (va_A [(h0, .inr (0, [.ref h1, .ref h2, .ref h3, .ref h4, .ref h5, .ref h6, .ref h7])), (h3, .inr (3, [.ref h1, .ref c1, .int 0]))] sz) := by
  refine vx_ofW (cc := cX8_ballot) (maxL := 11) (ret := (some .int)) (by decide) rfl ?_
  intro p e s m args below meth c s₁ B hml hte hv
  obtain ⟨rfl, hsz, hP, hD0, hE⟩ := hv
  have hx := B.exec
  have hb := B.bytes
  have hr := B.returns
  have hlocks := B.notSynchronized
  have hts := hE.1.ts ([.ref h0, .int p0, .int p1, .int p2, .int p3, .int p4] : List Value).toArray
  have hnt := hE.1.nt ([.ref h0, .int p0, .int p1, .int p2, .int p3, .int p4] : List Value).toArray
  have hK := hE.2.1
  have hown : s.vm.findClass RX8 = some m.cls := findClass_of_methodNamed B.named
  subst hsz
  have hD := hD0.self (sz := s.heap.size)
  generalize hAe : va_A [(h0, .inr (0, [.ref h1, .ref h2, .ref h3, .ref h4, .ref h5, .ref h6, .ref h7])), (h3, .inr (3, [.ref h1, .ref c1, .int 0]))] s.heap.size = A at hD hE ⊢
  have hA : ∀ q : Nat, s.heap.size ≤ q → A q := fun q h => by rw [← hAe]; exact Or.inr h
  have hl := lv_entry ([.ref h0, .int p0, .int p1, .int p2, .int p3, .int p4]) (n := 11) (Nat.le_of_ble_eq_true rfl)
  rw [lg_entry_eq]
  generalize (lg_sl ([.ref h0, .int p0, .int p1, .int p2, .int p3, .int p4]) ++ List.replicate (11 - (lg_sl ([.ref h0, .int p0, .int p1, .int p2, .int p3, .int p4])).length) Slot.unset).toArray = ls at hl ⊢
  have hl : lv_has ls 11 [(0, .ref h0), (1, .int p0), (2, .int p1), (3, .int p2), (4, .int p3), (5, .int p4)] := hl
  generalize hH : s.heap = H at hP ⊢
  have hS : va_S A s.heap H [] := by rw [← hH]; exact va_S.rf
  refine lv_aload_n hx hb dX8_ballot_0 rfl (lv_at hl 0 rfl) ?_
  have hF := va_free (wc := [(h0, .inr (0, [.ref h1, .ref h2, .ref h3, .ref h4, .ref h5, .ref h6, .ref h7])), (h3, .inr (3, [.ref h1, .ref c1, .int 0]))]) hD hS hA [0, 1] rfl
  refine xkx_v (px := fun E => E = "java/lang/IllegalStateException") (w1 := fun (_ : Unit) => []) (wc := [(h0, .inr (0, [.ref h1, .ref h2, .ref h3, .ref h4, .ref h5, .ref h6, .ref h7])), (h3, .inr (3, [.ref h1, .ref c1, .int 0]))]) (wr := []) (vx_runV (As := []) (rest := []) ⟨hx, hb, hml, hown, hts⟩ (c_X8_needAnyRound l hst D K h0 h1 h2 h3 h4 h5 h6 h7 c1 H.size) (cwV 0 hts xg_RX8_X8_needAnyRound_171 rfl rfl rfl (by decide +kernel) ⟨Nat.le_of_ble_eq_true rfl, Nat.le_of_ble_eq_true rfl⟩) ⟨xPre.blind, va_recv hK hP (ci := 0) (q0 := 0) rfl rfl, xPre.call hE hS (hP.sub [0, 1] rfl) (hD.sub [0, 1] (by decide) rfl) hF⟩ rfl rfl hl.1 rfl (lv_room (Nat.le_of_ble_eq_true rfl)) dX8_ballot_1 ⟨Nat.le_of_ble_eq_true rfl, Nat.le_of_ble_eq_true rfl⟩) hP hD hS hF [0, 1] [] rfl rfl rfl (by decide) (fun E9 ce9 q9 H locs hpx_4 hP hD hS hce hcv hcl => ?_) (fun u_1 H locs hw_3 hP hD hS => ?_)
  · obtain rfl := hpx_4
    exact vx_out (fun x hx9 => (hte x hx9).elim) hlocks hce hcv hcl (fun t ht hW => ⟨(), trivial, rfl, hS.F ht⟩) hS.2.2 (Nat.le_of_ble_eq_true rfl) (Nat.le_of_ble_eq_true rfl)
  · exact hw_3.elim
