set_option maxHeartbeats 4000000 in
set_option maxRecDepth 100000 in
theorem law_switch {p : Program} {l : Launch} {e : Env} {s : State} {m : MethodId} {below : List Frame} {meth : Method} {c : Code} {b : Nat} {xs : Nat → Int32} {D : va_G} {K : Nat → ClassId} {d0 : Drawn} {H : Heap} {locs : List Loc} {ls : Array Slot} {h0 h1 h2 h3 h4 h5 h6 h7 a1 a2 a3 a4 a5 a6 b1 b2 b3 b4 c1 d1 d2 d3 e1 e2 m0 m_schools m_isPresent m_irons m_wins m_points m_speeches m_sums m_judgeSchools m_ranks m_isAgainst m_pros m_cons m_judgeOf m_penalties m_winners m_roomMany m_bracketOf m_placeOf m_sizeOf m_order m_begins m_pairs m_best m_taken ol od : Nat} (hs9 : xLaw p l e s m below meth c b xs D K d0) (hP : va_P D xCl [(h0, .inr (0, [.ref h1, .ref h2, .ref h3, .ref h4, .ref h5, .ref h6, .ref h7])), (h1, .inr (1, [.ref a1, .ref a2, .ref a3, .ref a4, .ref a5, .ref a6, .int 0, .int 0])), (a1, .inl (K 0, 12, .inl (fun _ => 0))), (a2, .inl (K 1, 12, .inl (fun _ => 0))), (a3, .inl (K 0, 12, .inl (fun _ => 0))), (a4, .inl (K 0, 8, .inl (fun _ => 0))), (a5, .inl (K 0, 8, .inl (fun _ => 0))), (h2, .inr (2, [.ref b1, .ref b2, .ref b3, .ref b4, .long 0])), (b3, .inl (K 0, 24, .inl (fun _ => 0))), (h3, .inr (3, [.ref h1, .ref c1, .int 0])), (h4, .inr (4, [.ref h1, .ref h2, .ref h3, .ref d1, .ref d2, .ref d3])), (d3, .inl (K 0, 6, .inl (fun _ => 0))), (h5, .inr (5, [.ref h1, .ref h2, .ref h4, .ref e1, .ref e2, .int 0])), (m0, .inr (9, [.ref m_schools, .ref m_isPresent, .ref m_irons, .ref m_wins, .ref m_points, .ref m_speeches, .ref m_sums, .int 0, .ref m_judgeSchools, .ref m_ranks, .ref m_isAgainst, .int 0, .ref m_pros, .ref m_cons, .ref m_judgeOf, .ref m_penalties, .ref m_winners, .ref m_roomMany, .int 0, .ref m_bracketOf, .ref m_placeOf, .ref m_sizeOf, .long 0, .int 0, .ref m_order, .ref m_begins, .int 0, .int 0, .ref m_pairs, .ref m_best, .int 0, .ref m_taken])), (m_schools, .inl (K 0, 12, .inl (fun _ => 0))), (m_isPresent, .inl (K 1, 12, .inl (fun _ => 0))), (m_irons, .inl (K 0, 12, .inl (fun _ => 0))), (m_judgeSchools, .inl (K 0, 8, .inl (fun _ => 0))), (m_ranks, .inl (K 0, 8, .inl (fun _ => 0))), (m_begins, .inl (K 0, 13, .inl (fun _ => 0))), (ol, .inl (K 3, 1, .inr (.inl (fun _ => 0)))), (od, .inl (K 4, 1, .inr (.inr (.inr (.inl (fun _ => 0))))))] H) (hD : va_D (fun q : Nat => s.heap.size ≤ q) [(h0, .inr (0, [.ref h1, .ref h2, .ref h3, .ref h4, .ref h5, .ref h6, .ref h7])), (h1, .inr (1, [.ref a1, .ref a2, .ref a3, .ref a4, .ref a5, .ref a6, .int 0, .int 0])), (a1, .inl (K 0, 12, .inl (fun _ => 0))), (a2, .inl (K 1, 12, .inl (fun _ => 0))), (a3, .inl (K 0, 12, .inl (fun _ => 0))), (a4, .inl (K 0, 8, .inl (fun _ => 0))), (a5, .inl (K 0, 8, .inl (fun _ => 0))), (h2, .inr (2, [.ref b1, .ref b2, .ref b3, .ref b4, .long 0])), (b3, .inl (K 0, 24, .inl (fun _ => 0))), (h3, .inr (3, [.ref h1, .ref c1, .int 0])), (h4, .inr (4, [.ref h1, .ref h2, .ref h3, .ref d1, .ref d2, .ref d3])), (d3, .inl (K 0, 6, .inl (fun _ => 0))), (h5, .inr (5, [.ref h1, .ref h2, .ref h4, .ref e1, .ref e2, .int 0])), (m0, .inr (9, [.ref m_schools, .ref m_isPresent, .ref m_irons, .ref m_wins, .ref m_points, .ref m_speeches, .ref m_sums, .int 0, .ref m_judgeSchools, .ref m_ranks, .ref m_isAgainst, .int 0, .ref m_pros, .ref m_cons, .ref m_judgeOf, .ref m_penalties, .ref m_winners, .ref m_roomMany, .int 0, .ref m_bracketOf, .ref m_placeOf, .ref m_sizeOf, .long 0, .int 0, .ref m_order, .ref m_begins, .int 0, .int 0, .ref m_pairs, .ref m_best, .int 0, .ref m_taken])), (m_schools, .inl (K 0, 12, .inl (fun _ => 0))), (m_isPresent, .inl (K 1, 12, .inl (fun _ => 0))), (m_irons, .inl (K 0, 12, .inl (fun _ => 0))), (m_judgeSchools, .inl (K 0, 8, .inl (fun _ => 0))), (m_ranks, .inl (K 0, 8, .inl (fun _ => 0))), (m_begins, .inl (K 0, 13, .inl (fun _ => 0))), (ol, .inl (K 3, 1, .inr (.inl (fun _ => 0)))), (od, .inl (K 4, 1, .inr (.inr (.inr (.inl (fun _ => 0))))))]) (hS : va_S (fun q : Nat => s.heap.size ≤ q) (s.setDrawn d0).heap H locs) (hl : lv_has ls 9 [(5, .int 0), (4, .ref od), (3, .ref ol), (2, .ref m0), (1, .ref h0), (0, .ref b)]) : W p l e room_1 (s.setDrawn d0) m #[Value.ref b] below meth c H locs 2000 40000 (lw_Z below #[Value.ref b] s) (F0 m 38 ls []) := by
  have hs := hs9
  obtain ⟨hst, hd0, hx, hb, hr, hml, hown, hE, hX, hbl, hlocks⟩ := hs
  have hA : ∀ q : Nat, (s.setDrawn d0).heap.size ≤ q → (fun q : Nat => s.heap.size ≤ q) q := fun _ h => h
  have hbA : ¬ (fun q : Nat => s.heap.size ≤ q) b := Nat.not_le.mpr hbl
  have hts := hE.1.ts #[Value.ref b]
  have hnt := hE.1.nt #[Value.ref b]
  have hK := hE.2.1
  refine lv_aload_n hx hb dL_law_38 rfl (lv_at hl 5 rfl) ?_
  refine lv_iload hx hb dL_law_39 (lv_at hl 0 rfl) ?_
  refine va_sld hx hb hX hbl hbA hS (by unfold vp_in; decide) dL_law_41 ?_
  refine lv_bipush (v := 63) hx hb dL_law_42 (by decide) ?_
  refine lv_iand hx hb dL_law_44 ?_
  refine lv_topi (fun v ev => ?_)
  obtain ⟨j, hj, ej⟩ := pk_andE (xs ((0 : Int32).toNatClampNeg)) (m := 63) 6 (by decide)
  have hv : v = nI j := ev.trans ej
  clear ev ej
  rcases Nat.lt_or_ge j 43 with hq | hq
  · have hc : j = 0 ∨ j = 1 ∨ j = 2 ∨ j = 3 ∨ j = 4 ∨ j = 5 ∨ j = 6 ∨ j = 7 ∨ j = 8 ∨ j = 9 ∨ j = 10 ∨ j = 11 ∨ j = 12 ∨ j = 13 ∨ j = 14 ∨ j = 15 ∨ j = 16 ∨ j = 17 ∨ j = 18 ∨ j = 19 ∨ j = 20 ∨ j = 21 ∨ j = 22 ∨ j = 23 ∨ j = 24 ∨ j = 25 ∨ j = 26 ∨ j = 27 ∨ j = 28 ∨ j = 29 ∨ j = 30 ∨ j = 31 ∨ j = 32 ∨ j = 33 ∨ j = 34 ∨ j = 35 ∨ j = 36 ∨ j = 37 ∨ j = 38 ∨ j = 39 ∨ j = 40 ∨ j = 41 ∨ j = 42 := by omega
    rcases hc with rfl | rfl | rfl | rfl | rfl | rfl | rfl | rfl | rfl | rfl | rfl | rfl | rfl | rfl | rfl | rfl | rfl | rfl | rfl | rfl | rfl | rfl | rfl | rfl | rfl | rfl | rfl | rfl | rfl | rfl | rfl | rfl | rfl | rfl | rfl | rfl | rfl | rfl | rfl | rfl | rfl | rfl | rfl
    · obtain rfl : v = 0 := hv
      refine lv_tableIn (off := 187) (tgt := 232) hx hb dL_law_45 (by decide) (by decide) (by decide) (by decide) ?_
      exact law_case0 hs9 rfl hP hD hS hl
    · obtain rfl : v = 1 := hv
      refine lv_tableIn (off := 243) (tgt := 288) hx hb dL_law_45 (by decide) (by decide) (by decide) (by decide) ?_
      exact law_case1 hs9 rfl rfl hP hD hS hl
    · obtain rfl : v = 2 := hv
      refine lv_tableIn (off := 311) (tgt := 356) hx hb dL_law_45 (by decide) (by decide) (by decide) (by decide) ?_
      exact law_case2 hs9 rfl rfl hP hD hS hl
    · obtain rfl : v = 3 := hv
      refine lv_tableIn (off := 379) (tgt := 424) hx hb dL_law_45 (by decide) (by decide) (by decide) (by decide) ?_
      exact law_case3 hs9 rfl rfl hP hD hS hl
    · obtain rfl : v = 4 := hv
      refine lv_tableIn (off := 470) (tgt := 515) hx hb dL_law_45 (by decide) (by decide) (by decide) (by decide) ?_
      exact law_case4 hs9 rfl rfl hP hD hS hl
    · obtain rfl : v = 5 := hv
      refine lv_tableIn (off := 538) (tgt := 583) hx hb dL_law_45 (by decide) (by decide) (by decide) (by decide) ?_
      exact law_case5 hs9 hP hD hS hl
    · obtain rfl : v = 6 := hv
      refine lv_tableIn (off := 582) (tgt := 627) hx hb dL_law_45 (by decide) (by decide) (by decide) (by decide) ?_
      exact law_case6 hs9 rfl rfl rfl rfl rfl hP hD hS hl
    · obtain rfl : v = 7 := hv
      refine lv_tableIn (off := 686) (tgt := 731) hx hb dL_law_45 (by decide) (by decide) (by decide) (by decide) ?_
      exact law_case7 hs9 rfl rfl hP hD hS hl
    · obtain rfl : v = 8 := hv
      refine lv_tableIn (off := 754) (tgt := 799) hx hb dL_law_45 (by decide) (by decide) (by decide) (by decide) ?_
      exact law_case8 hs9 hP hD hS hl
    · obtain rfl : v = 9 := hv
      refine lv_tableIn (off := 767) (tgt := 812) hx hb dL_law_45 (by decide) (by decide) (by decide) (by decide) ?_
      exact law_case9 hs9 hP hD hS hl
    · obtain rfl : v = 10 := hv
      refine lv_tableIn (off := 780) (tgt := 825) hx hb dL_law_45 (by decide) (by decide) (by decide) (by decide) ?_
      exact law_case10 hs9 hP hD hS hl
    · obtain rfl : v = 11 := hv
      refine lv_tableIn (off := 793) (tgt := 838) hx hb dL_law_45 (by decide) (by decide) (by decide) (by decide) ?_
      exact law_case11 hs9 rfl hP hD hS hl
    · obtain rfl : v = 12 := hv
      refine lv_tableIn (off := 849) (tgt := 894) hx hb dL_law_45 (by decide) (by decide) (by decide) (by decide) ?_
      exact law_case12 hs9 rfl hP hD hS hl
    · obtain rfl : v = 13 := hv
      refine lv_tableIn (off := 912) (tgt := 957) hx hb dL_law_45 (by decide) (by decide) (by decide) (by decide) ?_
      exact law_case13 hs9 rfl rfl hP hD hS hl
    · obtain rfl : v = 14 := hv
      refine lv_tableIn (off := 987) (tgt := 1032) hx hb dL_law_45 (by decide) (by decide) (by decide) (by decide) ?_
      exact law_case14 hs9 rfl hP hD hS hl
    · obtain rfl : v = 15 := hv
      refine lv_tableIn (off := 1043) (tgt := 1088) hx hb dL_law_45 (by decide) (by decide) (by decide) (by decide) ?_
      exact law_case15 hs9 rfl hP hD hS hl
    · obtain rfl : v = 16 := hv
      refine lv_tableIn (off := 1099) (tgt := 1144) hx hb dL_law_45 (by decide) (by decide) (by decide) (by decide) ?_
      exact law_case16 hs9 rfl hP hD hS hl
    · obtain rfl : v = 17 := hv
      refine lv_tableIn (off := 1155) (tgt := 1200) hx hb dL_law_45 (by decide) (by decide) (by decide) (by decide) ?_
      exact law_case17 hs9 rfl hP hD hS hl
    · obtain rfl : v = 18 := hv
      refine lv_tableIn (off := 1211) (tgt := 1256) hx hb dL_law_45 (by decide) (by decide) (by decide) (by decide) ?_
      exact law_case18 hs9 rfl hP hD hS hl
    · obtain rfl : v = 19 := hv
      refine lv_tableIn (off := 1267) (tgt := 1312) hx hb dL_law_45 (by decide) (by decide) (by decide) (by decide) ?_
      exact law_case19 hs9 rfl rfl hP hD hS hl
    · obtain rfl : v = 20 := hv
      refine lv_tableIn (off := 1335) (tgt := 1380) hx hb dL_law_45 (by decide) (by decide) (by decide) (by decide) ?_
      exact law_case20 hs9 rfl hP hD hS hl
    · obtain rfl : v = 21 := hv
      refine lv_tableIn (off := 1391) (tgt := 1436) hx hb dL_law_45 (by decide) (by decide) (by decide) (by decide) ?_
      exact law_case21 hs9 hP hD hS hl
    · obtain rfl : v = 22 := hv
      refine lv_tableIn (off := 1404) (tgt := 1449) hx hb dL_law_45 (by decide) (by decide) (by decide) (by decide) ?_
      exact law_case22 hs9 rfl hP hD hS hl
    · obtain rfl : v = 23 := hv
      refine lv_tableIn (off := 1460) (tgt := 1505) hx hb dL_law_45 (by decide) (by decide) (by decide) (by decide) ?_
      exact law_case23 hs9 rfl rfl hP hD hS hl
    · obtain rfl : v = 24 := hv
      refine lv_tableIn (off := 1528) (tgt := 1573) hx hb dL_law_45 (by decide) (by decide) (by decide) (by decide) ?_
      exact law_case24 hs9 rfl hP hD hS hl
    · obtain rfl : v = 25 := hv
      refine lv_tableIn (off := 1584) (tgt := 1629) hx hb dL_law_45 (by decide) (by decide) (by decide) (by decide) ?_
      exact law_case25 hs9 rfl hP hD hS hl
    · obtain rfl : v = 26 := hv
      refine lv_tableIn (off := 1640) (tgt := 1685) hx hb dL_law_45 (by decide) (by decide) (by decide) (by decide) ?_
      exact law_case26 hs9 rfl rfl hP hD hS hl
    · obtain rfl : v = 27 := hv
      refine lv_tableIn (off := 1708) (tgt := 1753) hx hb dL_law_45 (by decide) (by decide) (by decide) (by decide) ?_
      exact law_case27 hs9 rfl hP hD hS hl
    · obtain rfl : v = 28 := hv
      refine lv_tableIn (off := 1764) (tgt := 1809) hx hb dL_law_45 (by decide) (by decide) (by decide) (by decide) ?_
      exact law_case28 hs9 rfl rfl rfl hP hD hS hl
    · obtain rfl : v = 29 := hv
      refine lv_tableIn (off := 1846) (tgt := 1891) hx hb dL_law_45 (by decide) (by decide) (by decide) (by decide) ?_
      exact law_case29 hs9 rfl rfl hP hD hS hl
    · obtain rfl : v = 30 := hv
      refine lv_tableIn (off := 1914) (tgt := 1959) hx hb dL_law_45 (by decide) (by decide) (by decide) (by decide) ?_
      exact law_case30 hs9 rfl rfl hP hD hS hl
    · obtain rfl : v = 31 := hv
      refine lv_tableIn (off := 1982) (tgt := 2027) hx hb dL_law_45 (by decide) (by decide) (by decide) (by decide) ?_
      exact law_case31 hs9 rfl rfl hP hD hS hl
    · obtain rfl : v = 32 := hv
      refine lv_tableIn (off := 2050) (tgt := 2095) hx hb dL_law_45 (by decide) (by decide) (by decide) (by decide) ?_
      exact law_case32 hs9 hP hD hS hl
    · obtain rfl : v = 33 := hv
      refine lv_tableIn (off := 2094) (tgt := 2139) hx hb dL_law_45 (by decide) (by decide) (by decide) (by decide) ?_
      exact law_case33 hs9 hP hD hS hl
    · obtain rfl : v = 34 := hv
      refine lv_tableIn (off := 2138) (tgt := 2183) hx hb dL_law_45 (by decide) (by decide) (by decide) (by decide) ?_
      exact law_case34 hs9 rfl rfl hP hD hS hl
    · obtain rfl : v = 35 := hv
      refine lv_tableIn (off := 2206) (tgt := 2251) hx hb dL_law_45 (by decide) (by decide) (by decide) (by decide) ?_
      exact law_case35 hs9 rfl rfl hP hD hS hl
    · obtain rfl : v = 36 := hv
      refine lv_tableIn (off := 2296) (tgt := 2341) hx hb dL_law_45 (by decide) (by decide) (by decide) (by decide) ?_
      exact law_case36 hs9 rfl rfl hP hD hS hl
    · obtain rfl : v = 37 := hv
      refine lv_tableIn (off := 2364) (tgt := 2409) hx hb dL_law_45 (by decide) (by decide) (by decide) (by decide) ?_
      exact law_case37 hs9 rfl rfl hP hD hS hl
    · obtain rfl : v = 38 := hv
      refine lv_tableIn (off := 2432) (tgt := 2477) hx hb dL_law_45 (by decide) (by decide) (by decide) (by decide) ?_
      exact law_case38 hs9 rfl hP hD hS hl
    · obtain rfl : v = 39 := hv
      refine lv_tableIn (off := 2488) (tgt := 2533) hx hb dL_law_45 (by decide) (by decide) (by decide) (by decide) ?_
      exact law_case39 hs9 rfl rfl hP hD hS hl
    · obtain rfl : v = 40 := hv
      refine lv_tableIn (off := 2556) (tgt := 2601) hx hb dL_law_45 (by decide) (by decide) (by decide) (by decide) ?_
      exact law_case40 hs9 rfl hP hD hS hl
    · obtain rfl : v = 41 := hv
      refine lv_tableIn (off := 2614) (tgt := 2659) hx hb dL_law_45 (by decide) (by decide) (by decide) (by decide) ?_
      exact law_case41 hs9 hP hD hS hl
    · obtain rfl : v = 42 := hv
      refine lv_tableIn (off := 2628) (tgt := 2673) hx hb dL_law_45 (by decide) (by decide) (by decide) (by decide) ?_
      exact law_case42 hs9 hP hD hS hl
  · refine lv_tableOut (tgt := 2738) hx hb dL_law_45 (Or.inr ?_) (by decide) ?_
    · rw [hv, nI_toInt (by omega)]; omega
    · refine W.widen (k := 5000) (n := 100000) (Nat.le_of_ble_eq_true rfl) (Nat.le_of_ble_eq_true rfl) ?_
      exact law_tail hs9 hS (lv_sub hl [5, 0] rfl)
set_option maxHeartbeats 4000000 in
set_option maxRecDepth 100000 in
theorem law_make {p : Program} {l : Launch} {e : Env} {s : State} {m : MethodId} {below : List Frame} {meth : Method} {c : Code} {b : Nat} {xs : Nat → Int32} {D : va_G} {K : Nat → ClassId} {d0 : Drawn} {H : Heap} {locs : List Loc} {ls : Array Slot} {L : Nat} (hL : L ≤ 6) (hst : l.stackTraces = false) (hd0 : s.drawn.sameBut d0 lw_cs) (hx : p.tables.exec = Jvm.exec) (hb : c.code = code) (hr : meth.sig.returnType = ret) (hml : c.maxLocals = 9) (hown : (s.setDrawn d0).vm.findClass RL = some m.cls) (hE : xE D K (fun q : Nat => s.heap.size ≤ q) (s.setDrawn d0) (s.setDrawn d0).heap) (hX : va_X b L xs (s.setDrawn d0) (s.setDrawn d0).heap) (hbl : b < (s.setDrawn d0).heap.size) (hlocks : meth.locks = false) (hS : va_S (fun q : Nat => s.heap.size ≤ q) (s.setDrawn d0).heap H []) (hl : lv_has ls 9 [(0, .ref b)]) : W p l e room_1 (s.setDrawn d0) m #[Value.ref b] below meth c H [] 0 0 (lw_Z below #[Value.ref b] s) (F0 m 0 ls []) := by
  have hA : ∀ q : Nat, (s.setDrawn d0).heap.size ≤ q → (fun q : Nat => s.heap.size ≤ q) q := fun _ h => h
  have hbA : ¬ (fun q : Nat => s.heap.size ≤ q) b := Nat.not_le.mpr hbl
  have hts := hE.1.ts #[Value.ref b]
  have hnt := hE.1.nt #[Value.ref b]
  have hK := hE.2.1
  have hP : va_P D xCl [] H := fun k q h => by simp at h
  have hD : va_D (fun q : Nat => s.heap.size ≤ q) [] := ⟨fun i j p q h => by simp at h, fun k q h => by simp at h⟩
  refine va_new (ci := 0) (fs := [.null, .null, .null, .null, .null, .null, .null]) (C := RX8) (T := TX8) (N := 7) hx hb hts inlX8 tyX8 tyX8_ok hown (hts _ xw1_0) (hts _ xw1_1) (hts _ xw1_2) hK hP hD hS hA rfl (by decide +kernel) (Nat.le_of_ble_eq_true rfl) (Nat.le_of_ble_eq_true rfl) dL_law_0 (fun q_1 H hP hD hS => ?_)
  have hP : va_P D xCl [(q_1, .inr (0, [.null, .null, .null, .null, .null, .null, .null]))] H := hP
  have hD : va_D (fun q : Nat => s.heap.size ≤ q) [(q_1, .inr (0, [.null, .null, .null, .null, .null, .null, .null]))] := hD
  refine W.widen (k := 1) (n := 7) (Nat.le_of_ble_eq_true rfl) (Nat.le_of_ble_eq_true rfl) ?_
  refine lv_dup hx hb dL_law_3 rfl ?_
  have hF := va_free (wc := [(q_1, .inr (0, [.null, .null, .null, .null, .null, .null, .null]))]) hD hS hA [0] rfl
  refine xk_v (w1 := fun (u : Nat → Nat) => [(q_1, .inr (0, [.ref (u 0), .ref (u 1), .ref (u 2), .ref (u 3), .ref (u 4), .ref (u 5), .ref (u 6)])), ((u 0), .inr (1, [.ref (u 7), .ref (u 8), .ref (u 9), .ref (u 10), .ref (u 11), .ref (u 12), .int 0, .int 0])), ((u 7), .inl (K 0, 12, .inl (fun _ => 0))), ((u 8), .inl (K 1, 12, .inl (fun _ => 0))), ((u 9), .inl (K 0, 12, .inl (fun _ => 0))), ((u 10), .inl (K 0, 8, .inl (fun _ => 0))), ((u 11), .inl (K 0, 8, .inl (fun _ => 0))), ((u 1), .inr (2, [.ref (u 13), .ref (u 14), .ref (u 15), .ref (u 16), .long 0])), ((u 15), .inl (K 0, 24, .inl (fun _ => 0))), ((u 2), .inr (3, [.ref (u 0), .ref (u 17), .int 0])), ((u 3), .inr (4, [.ref (u 0), .ref (u 1), .ref (u 2), .ref (u 18), .ref (u 19), .ref (u 20)])), ((u 20), .inl (K 0, 6, .inl (fun _ => 0))), ((u 4), .inr (5, [.ref (u 0), .ref (u 1), .ref (u 3), .ref (u 21), .ref (u 22), .int 0]))]) (wc := [(q_1, .inr (0, [.null, .null, .null, .null, .null, .null, .null]))]) (wr := []) (va_runI (As := []) (rest := [.ref q_1]) ⟨hx, hb, hml, hown, hts⟩ (c_X8_init l D K q_1 H.size) (cwI 0 hts xg_RL_X8_init_147 rfl rfl rfl (hts _ xw1_2) (hts _ xw1_8) (hts _ xw1_9) rfl (by decide +kernel) ⟨Nat.le_of_ble_eq_true rfl, Nat.le_of_ble_eq_true rfl⟩) ⟨xPre.blind, xPre.call hE hS (hP.sub [0] rfl) (hD.sub [0] (by decide) rfl) hF⟩ rfl rfl hl.1 rfl (lv_room (Nat.le_of_ble_eq_true rfl)) dL_law_4 ⟨Nat.le_of_ble_eq_true rfl, Nat.le_of_ble_eq_true rfl⟩) hP hD hS hF [0] [] rfl rfl rfl (by decide) (fun u_2 H locs hw_4 hP hD hS => ?_)
  have hP : va_P D xCl [(q_1, .inr (0, [.ref (u_2 0), .ref (u_2 1), .ref (u_2 2), .ref (u_2 3), .ref (u_2 4), .ref (u_2 5), .ref (u_2 6)])), ((u_2 0), .inr (1, [.ref (u_2 7), .ref (u_2 8), .ref (u_2 9), .ref (u_2 10), .ref (u_2 11), .ref (u_2 12), .int 0, .int 0])), ((u_2 7), .inl (K 0, 12, .inl (fun _ => 0))), ((u_2 8), .inl (K 1, 12, .inl (fun _ => 0))), ((u_2 9), .inl (K 0, 12, .inl (fun _ => 0))), ((u_2 10), .inl (K 0, 8, .inl (fun _ => 0))), ((u_2 11), .inl (K 0, 8, .inl (fun _ => 0))), ((u_2 1), .inr (2, [.ref (u_2 13), .ref (u_2 14), .ref (u_2 15), .ref (u_2 16), .long 0])), ((u_2 15), .inl (K 0, 24, .inl (fun _ => 0))), ((u_2 2), .inr (3, [.ref (u_2 0), .ref (u_2 17), .int 0])), ((u_2 3), .inr (4, [.ref (u_2 0), .ref (u_2 1), .ref (u_2 2), .ref (u_2 18), .ref (u_2 19), .ref (u_2 20)])), ((u_2 20), .inl (K 0, 6, .inl (fun _ => 0))), ((u_2 4), .inr (5, [.ref (u_2 0), .ref (u_2 1), .ref (u_2 3), .ref (u_2 21), .ref (u_2 22), .int 0]))] H := hP
  have hD : va_D (fun q : Nat => s.heap.size ≤ q) [(q_1, .inr (0, [.ref (u_2 0), .ref (u_2 1), .ref (u_2 2), .ref (u_2 3), .ref (u_2 4), .ref (u_2 5), .ref (u_2 6)])), ((u_2 0), .inr (1, [.ref (u_2 7), .ref (u_2 8), .ref (u_2 9), .ref (u_2 10), .ref (u_2 11), .ref (u_2 12), .int 0, .int 0])), ((u_2 7), .inl (K 0, 12, .inl (fun _ => 0))), ((u_2 8), .inl (K 1, 12, .inl (fun _ => 0))), ((u_2 9), .inl (K 0, 12, .inl (fun _ => 0))), ((u_2 10), .inl (K 0, 8, .inl (fun _ => 0))), ((u_2 11), .inl (K 0, 8, .inl (fun _ => 0))), ((u_2 1), .inr (2, [.ref (u_2 13), .ref (u_2 14), .ref (u_2 15), .ref (u_2 16), .long 0])), ((u_2 15), .inl (K 0, 24, .inl (fun _ => 0))), ((u_2 2), .inr (3, [.ref (u_2 0), .ref (u_2 17), .int 0])), ((u_2 3), .inr (4, [.ref (u_2 0), .ref (u_2 1), .ref (u_2 2), .ref (u_2 18), .ref (u_2 19), .ref (u_2 20)])), ((u_2 20), .inl (K 0, 6, .inl (fun _ => 0))), ((u_2 4), .inr (5, [.ref (u_2 0), .ref (u_2 1), .ref (u_2 3), .ref (u_2 21), .ref (u_2 22), .int 0]))] := hD
  refine W.widen (k := 83) (n := 798) (Nat.le_of_ble_eq_true rfl) (Nat.le_of_ble_eq_true rfl) ?_
  refine lv_astore_n (lv' := [(1, .ref q_1), (0, .ref b)]) hx hb dL_law_7 rfl hl (by decide) rfl (fun ls hl => ?_)
  refine va_new (ci := 9) (fs := [.null, .null, .null, .null, .null, .null, .null, .int 0, .null, .null, .null, .int 0, .null, .null, .null, .null, .null, .null, .int 0, .null, .null, .null, .long 0, .int 0, .null, .null, .int 0, .int 0, .null, .null, .int 0, .null]) (C := RX9) (T := TX9) (N := 32) hx hb hts inlX9 tyX9 tyX9_ok hown (hts _ xw1_3) (hts _ xw1_4) (hts _ xw1_5) hK hP hD hS hA rfl (by decide +kernel) (Nat.le_of_ble_eq_true rfl) (Nat.le_of_ble_eq_true rfl) dL_law_8 (fun q_5 H hP hD hS => ?_)
  have hP : va_P D xCl [(q_1, .inr (0, [.ref (u_2 0), .ref (u_2 1), .ref (u_2 2), .ref (u_2 3), .ref (u_2 4), .ref (u_2 5), .ref (u_2 6)])), ((u_2 0), .inr (1, [.ref (u_2 7), .ref (u_2 8), .ref (u_2 9), .ref (u_2 10), .ref (u_2 11), .ref (u_2 12), .int 0, .int 0])), ((u_2 7), .inl (K 0, 12, .inl (fun _ => 0))), ((u_2 8), .inl (K 1, 12, .inl (fun _ => 0))), ((u_2 9), .inl (K 0, 12, .inl (fun _ => 0))), ((u_2 10), .inl (K 0, 8, .inl (fun _ => 0))), ((u_2 11), .inl (K 0, 8, .inl (fun _ => 0))), ((u_2 1), .inr (2, [.ref (u_2 13), .ref (u_2 14), .ref (u_2 15), .ref (u_2 16), .long 0])), ((u_2 15), .inl (K 0, 24, .inl (fun _ => 0))), ((u_2 2), .inr (3, [.ref (u_2 0), .ref (u_2 17), .int 0])), ((u_2 3), .inr (4, [.ref (u_2 0), .ref (u_2 1), .ref (u_2 2), .ref (u_2 18), .ref (u_2 19), .ref (u_2 20)])), ((u_2 20), .inl (K 0, 6, .inl (fun _ => 0))), ((u_2 4), .inr (5, [.ref (u_2 0), .ref (u_2 1), .ref (u_2 3), .ref (u_2 21), .ref (u_2 22), .int 0])), (q_5, .inr (9, [.null, .null, .null, .null, .null, .null, .null, .int 0, .null, .null, .null, .int 0, .null, .null, .null, .null, .null, .null, .int 0, .null, .null, .null, .long 0, .int 0, .null, .null, .int 0, .int 0, .null, .null, .int 0, .null]))] H := hP
  have hD : va_D (fun q : Nat => s.heap.size ≤ q) [(q_1, .inr (0, [.ref (u_2 0), .ref (u_2 1), .ref (u_2 2), .ref (u_2 3), .ref (u_2 4), .ref (u_2 5), .ref (u_2 6)])), ((u_2 0), .inr (1, [.ref (u_2 7), .ref (u_2 8), .ref (u_2 9), .ref (u_2 10), .ref (u_2 11), .ref (u_2 12), .int 0, .int 0])), ((u_2 7), .inl (K 0, 12, .inl (fun _ => 0))), ((u_2 8), .inl (K 1, 12, .inl (fun _ => 0))), ((u_2 9), .inl (K 0, 12, .inl (fun _ => 0))), ((u_2 10), .inl (K 0, 8, .inl (fun _ => 0))), ((u_2 11), .inl (K 0, 8, .inl (fun _ => 0))), ((u_2 1), .inr (2, [.ref (u_2 13), .ref (u_2 14), .ref (u_2 15), .ref (u_2 16), .long 0])), ((u_2 15), .inl (K 0, 24, .inl (fun _ => 0))), ((u_2 2), .inr (3, [.ref (u_2 0), .ref (u_2 17), .int 0])), ((u_2 3), .inr (4, [.ref (u_2 0), .ref (u_2 1), .ref (u_2 2), .ref (u_2 18), .ref (u_2 19), .ref (u_2 20)])), ((u_2 20), .inl (K 0, 6, .inl (fun _ => 0))), ((u_2 4), .inr (5, [.ref (u_2 0), .ref (u_2 1), .ref (u_2 3), .ref (u_2 21), .ref (u_2 22), .int 0])), (q_5, .inr (9, [.null, .null, .null, .null, .null, .null, .null, .int 0, .null, .null, .null, .int 0, .null, .null, .null, .null, .null, .null, .int 0, .null, .null, .null, .long 0, .int 0, .null, .null, .int 0, .int 0, .null, .null, .int 0, .null]))] := hD
  refine W.widen (k := 84) (n := 830) (Nat.le_of_ble_eq_true rfl) (Nat.le_of_ble_eq_true rfl) ?_
  refine lv_dup hx hb dL_law_11 rfl ?_
  have hF := va_free (wc := [(q_5, .inr (9, [.null, .null, .null, .null, .null, .null, .null, .int 0, .null, .null, .null, .int 0, .null, .null, .null, .null, .null, .null, .int 0, .null, .null, .null, .long 0, .int 0, .null, .null, .int 0, .int 0, .null, .null, .int 0, .null]))]) hD hS hA [13] rfl
  refine xk_v (w1 := fun (u : Nat → Nat) => [(q_5, .inr (9, [.ref (u 0), .ref (u 1), .ref (u 2), .ref (u 3), .ref (u 4), .ref (u 5), .ref (u 6), .int 0, .ref (u 7), .ref (u 8), .ref (u 9), .int 0, .ref (u 10), .ref (u 11), .ref (u 12), .ref (u 13), .ref (u 14), .ref (u 15), .int 0, .ref (u 16), .ref (u 17), .ref (u 18), .long 0, .int 0, .ref (u 19), .ref (u 20), .int 0, .int 0, .ref (u 21), .ref (u 22), .int 0, .ref (u 23)])), ((u 0), .inl (K 0, 12, .inl (fun _ => 0))), ((u 1), .inl (K 1, 12, .inl (fun _ => 0))), ((u 2), .inl (K 0, 12, .inl (fun _ => 0))), ((u 7), .inl (K 0, 8, .inl (fun _ => 0))), ((u 8), .inl (K 0, 8, .inl (fun _ => 0))), ((u 20), .inl (K 0, 13, .inl (fun _ => 0)))]) (wc := [(q_5, .inr (9, [.null, .null, .null, .null, .null, .null, .null, .int 0, .null, .null, .null, .int 0, .null, .null, .null, .null, .null, .null, .int 0, .null, .null, .null, .long 0, .int 0, .null, .null, .int 0, .int 0, .null, .null, .int 0, .null]))]) (wr := [(q_1, .inr (0, [.ref (u_2 0), .ref (u_2 1), .ref (u_2 2), .ref (u_2 3), .ref (u_2 4), .ref (u_2 5), .ref (u_2 6)])), ((u_2 0), .inr (1, [.ref (u_2 7), .ref (u_2 8), .ref (u_2 9), .ref (u_2 10), .ref (u_2 11), .ref (u_2 12), .int 0, .int 0])), ((u_2 7), .inl (K 0, 12, .inl (fun _ => 0))), ((u_2 8), .inl (K 1, 12, .inl (fun _ => 0))), ((u_2 9), .inl (K 0, 12, .inl (fun _ => 0))), ((u_2 10), .inl (K 0, 8, .inl (fun _ => 0))), ((u_2 11), .inl (K 0, 8, .inl (fun _ => 0))), ((u_2 1), .inr (2, [.ref (u_2 13), .ref (u_2 14), .ref (u_2 15), .ref (u_2 16), .long 0])), ((u_2 15), .inl (K 0, 24, .inl (fun _ => 0))), ((u_2 2), .inr (3, [.ref (u_2 0), .ref (u_2 17), .int 0])), ((u_2 3), .inr (4, [.ref (u_2 0), .ref (u_2 1), .ref (u_2 2), .ref (u_2 18), .ref (u_2 19), .ref (u_2 20)])), ((u_2 20), .inl (K 0, 6, .inl (fun _ => 0))), ((u_2 4), .inr (5, [.ref (u_2 0), .ref (u_2 1), .ref (u_2 3), .ref (u_2 21), .ref (u_2 22), .int 0]))]) (va_runI (As := []) (rest := [.ref q_5]) ⟨hx, hb, hml, hown, hts⟩ (c_X9_init l D K q_5 H.size) (cwI 0 hts xg_RL_X9_init_150 rfl rfl rfl (hts _ xw1_5) (hts _ xw5_17) (hts _ xw5_18) rfl (by decide +kernel) ⟨Nat.le_of_ble_eq_true rfl, Nat.le_of_ble_eq_true rfl⟩) ⟨xPre.blind, xPre.call hE hS (hP.sub [13] rfl) (hD.sub [13] (by decide) rfl) hF⟩ rfl rfl hl.1 rfl (lv_room (Nat.le_of_ble_eq_true rfl)) dL_law_12 ⟨Nat.le_of_ble_eq_true rfl, Nat.le_of_ble_eq_true rfl⟩) hP hD hS hF [13] [0, 1, 2, 3, 4, 5, 6, 7, 8, 9, 10, 11, 12] rfl rfl rfl (by decide) (fun u_6 H locs hw_8 hP hD hS => ?_)
  have hP : va_P D xCl [(q_1, .inr (0, [.ref (u_2 0), .ref (u_2 1), .ref (u_2 2), .ref (u_2 3), .ref (u_2 4), .ref (u_2 5), .ref (u_2 6)])), ((u_2 0), .inr (1, [.ref (u_2 7), .ref (u_2 8), .ref (u_2 9), .ref (u_2 10), .ref (u_2 11), .ref (u_2 12), .int 0, .int 0])), ((u_2 7), .inl (K 0, 12, .inl (fun _ => 0))), ((u_2 8), .inl (K 1, 12, .inl (fun _ => 0))), ((u_2 9), .inl (K 0, 12, .inl (fun _ => 0))), ((u_2 10), .inl (K 0, 8, .inl (fun _ => 0))), ((u_2 11), .inl (K 0, 8, .inl (fun _ => 0))), ((u_2 1), .inr (2, [.ref (u_2 13), .ref (u_2 14), .ref (u_2 15), .ref (u_2 16), .long 0])), ((u_2 15), .inl (K 0, 24, .inl (fun _ => 0))), ((u_2 2), .inr (3, [.ref (u_2 0), .ref (u_2 17), .int 0])), ((u_2 3), .inr (4, [.ref (u_2 0), .ref (u_2 1), .ref (u_2 2), .ref (u_2 18), .ref (u_2 19), .ref (u_2 20)])), ((u_2 20), .inl (K 0, 6, .inl (fun _ => 0))), ((u_2 4), .inr (5, [.ref (u_2 0), .ref (u_2 1), .ref (u_2 3), .ref (u_2 21), .ref (u_2 22), .int 0])), (q_5, .inr (9, [.ref (u_6 0), .ref (u_6 1), .ref (u_6 2), .ref (u_6 3), .ref (u_6 4), .ref (u_6 5), .ref (u_6 6), .int 0, .ref (u_6 7), .ref (u_6 8), .ref (u_6 9), .int 0, .ref (u_6 10), .ref (u_6 11), .ref (u_6 12), .ref (u_6 13), .ref (u_6 14), .ref (u_6 15), .int 0, .ref (u_6 16), .ref (u_6 17), .ref (u_6 18), .long 0, .int 0, .ref (u_6 19), .ref (u_6 20), .int 0, .int 0, .ref (u_6 21), .ref (u_6 22), .int 0, .ref (u_6 23)])), ((u_6 0), .inl (K 0, 12, .inl (fun _ => 0))), ((u_6 1), .inl (K 1, 12, .inl (fun _ => 0))), ((u_6 2), .inl (K 0, 12, .inl (fun _ => 0))), ((u_6 7), .inl (K 0, 8, .inl (fun _ => 0))), ((u_6 8), .inl (K 0, 8, .inl (fun _ => 0))), ((u_6 20), .inl (K 0, 13, .inl (fun _ => 0)))] H := hP
  have hD : va_D (fun q : Nat => s.heap.size ≤ q) [(q_1, .inr (0, [.ref (u_2 0), .ref (u_2 1), .ref (u_2 2), .ref (u_2 3), .ref (u_2 4), .ref (u_2 5), .ref (u_2 6)])), ((u_2 0), .inr (1, [.ref (u_2 7), .ref (u_2 8), .ref (u_2 9), .ref (u_2 10), .ref (u_2 11), .ref (u_2 12), .int 0, .int 0])), ((u_2 7), .inl (K 0, 12, .inl (fun _ => 0))), ((u_2 8), .inl (K 1, 12, .inl (fun _ => 0))), ((u_2 9), .inl (K 0, 12, .inl (fun _ => 0))), ((u_2 10), .inl (K 0, 8, .inl (fun _ => 0))), ((u_2 11), .inl (K 0, 8, .inl (fun _ => 0))), ((u_2 1), .inr (2, [.ref (u_2 13), .ref (u_2 14), .ref (u_2 15), .ref (u_2 16), .long 0])), ((u_2 15), .inl (K 0, 24, .inl (fun _ => 0))), ((u_2 2), .inr (3, [.ref (u_2 0), .ref (u_2 17), .int 0])), ((u_2 3), .inr (4, [.ref (u_2 0), .ref (u_2 1), .ref (u_2 2), .ref (u_2 18), .ref (u_2 19), .ref (u_2 20)])), ((u_2 20), .inl (K 0, 6, .inl (fun _ => 0))), ((u_2 4), .inr (5, [.ref (u_2 0), .ref (u_2 1), .ref (u_2 3), .ref (u_2 21), .ref (u_2 22), .int 0])), (q_5, .inr (9, [.ref (u_6 0), .ref (u_6 1), .ref (u_6 2), .ref (u_6 3), .ref (u_6 4), .ref (u_6 5), .ref (u_6 6), .int 0, .ref (u_6 7), .ref (u_6 8), .ref (u_6 9), .int 0, .ref (u_6 10), .ref (u_6 11), .ref (u_6 12), .ref (u_6 13), .ref (u_6 14), .ref (u_6 15), .int 0, .ref (u_6 16), .ref (u_6 17), .ref (u_6 18), .long 0, .int 0, .ref (u_6 19), .ref (u_6 20), .int 0, .int 0, .ref (u_6 21), .ref (u_6 22), .int 0, .ref (u_6 23)])), ((u_6 0), .inl (K 0, 12, .inl (fun _ => 0))), ((u_6 1), .inl (K 1, 12, .inl (fun _ => 0))), ((u_6 2), .inl (K 0, 12, .inl (fun _ => 0))), ((u_6 7), .inl (K 0, 8, .inl (fun _ => 0))), ((u_6 8), .inl (K 0, 8, .inl (fun _ => 0))), ((u_6 20), .inl (K 0, 13, .inl (fun _ => 0)))] := hD
  refine W.widen (k := 146) (n := 1365) (Nat.le_of_ble_eq_true rfl) (Nat.le_of_ble_eq_true rfl) ?_
  refine lv_astore_n (lv' := [(2, .ref q_5), (1, .ref q_1), (0, .ref b)]) hx hb dL_law_15 rfl hl (by decide) rfl (fun ls hl => ?_)
  refine lv_iconst (v := 1) hx hb dL_law_16 (by decide) ?_
  refine va_newa (atype := .long) (ty := .long) (N' := 1) (a0 := (1, .inr (.inl (fun _ => 0)))) hx hb (hts _ xw1_6) rfl hK hP hD hS hA (fun _ => rfl) (by decide) (by decide) (by decide) (Nat.le_of_ble_eq_true rfl) (Nat.le_of_ble_eq_true rfl) dL_law_17 (fun q_9 cA_10 H hK9 hP hD hS => ?_)
  obtain rfl := xKu hK9 3 rfl
  have hP : va_P D xCl [(q_1, .inr (0, [.ref (u_2 0), .ref (u_2 1), .ref (u_2 2), .ref (u_2 3), .ref (u_2 4), .ref (u_2 5), .ref (u_2 6)])), ((u_2 0), .inr (1, [.ref (u_2 7), .ref (u_2 8), .ref (u_2 9), .ref (u_2 10), .ref (u_2 11), .ref (u_2 12), .int 0, .int 0])), ((u_2 7), .inl (K 0, 12, .inl (fun _ => 0))), ((u_2 8), .inl (K 1, 12, .inl (fun _ => 0))), ((u_2 9), .inl (K 0, 12, .inl (fun _ => 0))), ((u_2 10), .inl (K 0, 8, .inl (fun _ => 0))), ((u_2 11), .inl (K 0, 8, .inl (fun _ => 0))), ((u_2 1), .inr (2, [.ref (u_2 13), .ref (u_2 14), .ref (u_2 15), .ref (u_2 16), .long 0])), ((u_2 15), .inl (K 0, 24, .inl (fun _ => 0))), ((u_2 2), .inr (3, [.ref (u_2 0), .ref (u_2 17), .int 0])), ((u_2 3), .inr (4, [.ref (u_2 0), .ref (u_2 1), .ref (u_2 2), .ref (u_2 18), .ref (u_2 19), .ref (u_2 20)])), ((u_2 20), .inl (K 0, 6, .inl (fun _ => 0))), ((u_2 4), .inr (5, [.ref (u_2 0), .ref (u_2 1), .ref (u_2 3), .ref (u_2 21), .ref (u_2 22), .int 0])), (q_5, .inr (9, [.ref (u_6 0), .ref (u_6 1), .ref (u_6 2), .ref (u_6 3), .ref (u_6 4), .ref (u_6 5), .ref (u_6 6), .int 0, .ref (u_6 7), .ref (u_6 8), .ref (u_6 9), .int 0, .ref (u_6 10), .ref (u_6 11), .ref (u_6 12), .ref (u_6 13), .ref (u_6 14), .ref (u_6 15), .int 0, .ref (u_6 16), .ref (u_6 17), .ref (u_6 18), .long 0, .int 0, .ref (u_6 19), .ref (u_6 20), .int 0, .int 0, .ref (u_6 21), .ref (u_6 22), .int 0, .ref (u_6 23)])), ((u_6 0), .inl (K 0, 12, .inl (fun _ => 0))), ((u_6 1), .inl (K 1, 12, .inl (fun _ => 0))), ((u_6 2), .inl (K 0, 12, .inl (fun _ => 0))), ((u_6 7), .inl (K 0, 8, .inl (fun _ => 0))), ((u_6 8), .inl (K 0, 8, .inl (fun _ => 0))), ((u_6 20), .inl (K 0, 13, .inl (fun _ => 0))), (q_9, .inl (K 3, 1, .inr (.inl (fun _ => 0))))] H := hP
  have hD : va_D (fun q : Nat => s.heap.size ≤ q) [(q_1, .inr (0, [.ref (u_2 0), .ref (u_2 1), .ref (u_2 2), .ref (u_2 3), .ref (u_2 4), .ref (u_2 5), .ref (u_2 6)])), ((u_2 0), .inr (1, [.ref (u_2 7), .ref (u_2 8), .ref (u_2 9), .ref (u_2 10), .ref (u_2 11), .ref (u_2 12), .int 0, .int 0])), ((u_2 7), .inl (K 0, 12, .inl (fun _ => 0))), ((u_2 8), .inl (K 1, 12, .inl (fun _ => 0))), ((u_2 9), .inl (K 0, 12, .inl (fun _ => 0))), ((u_2 10), .inl (K 0, 8, .inl (fun _ => 0))), ((u_2 11), .inl (K 0, 8, .inl (fun _ => 0))), ((u_2 1), .inr (2, [.ref (u_2 13), .ref (u_2 14), .ref (u_2 15), .ref (u_2 16), .long 0])), ((u_2 15), .inl (K 0, 24, .inl (fun _ => 0))), ((u_2 2), .inr (3, [.ref (u_2 0), .ref (u_2 17), .int 0])), ((u_2 3), .inr (4, [.ref (u_2 0), .ref (u_2 1), .ref (u_2 2), .ref (u_2 18), .ref (u_2 19), .ref (u_2 20)])), ((u_2 20), .inl (K 0, 6, .inl (fun _ => 0))), ((u_2 4), .inr (5, [.ref (u_2 0), .ref (u_2 1), .ref (u_2 3), .ref (u_2 21), .ref (u_2 22), .int 0])), (q_5, .inr (9, [.ref (u_6 0), .ref (u_6 1), .ref (u_6 2), .ref (u_6 3), .ref (u_6 4), .ref (u_6 5), .ref (u_6 6), .int 0, .ref (u_6 7), .ref (u_6 8), .ref (u_6 9), .int 0, .ref (u_6 10), .ref (u_6 11), .ref (u_6 12), .ref (u_6 13), .ref (u_6 14), .ref (u_6 15), .int 0, .ref (u_6 16), .ref (u_6 17), .ref (u_6 18), .long 0, .int 0, .ref (u_6 19), .ref (u_6 20), .int 0, .int 0, .ref (u_6 21), .ref (u_6 22), .int 0, .ref (u_6 23)])), ((u_6 0), .inl (K 0, 12, .inl (fun _ => 0))), ((u_6 1), .inl (K 1, 12, .inl (fun _ => 0))), ((u_6 2), .inl (K 0, 12, .inl (fun _ => 0))), ((u_6 7), .inl (K 0, 8, .inl (fun _ => 0))), ((u_6 8), .inl (K 0, 8, .inl (fun _ => 0))), ((u_6 20), .inl (K 0, 13, .inl (fun _ => 0))), (q_9, .inl (K 3, 1, .inr (.inl (fun _ => 0))))] := hD
  refine W.widen (k := 147) (n := 1366) (Nat.le_of_ble_eq_true rfl) (Nat.le_of_ble_eq_true rfl) ?_
  refine lv_astore_n (lv' := [(3, .ref q_9), (2, .ref q_5), (1, .ref q_1), (0, .ref b)]) hx hb dL_law_19 rfl hl (by decide) rfl (fun ls hl => ?_)
  refine lv_iconst (v := 1) hx hb dL_law_20 (by decide) ?_
  refine va_newa (atype := .double) (ty := .double) (N' := 1) (a0 := (1, .inr (.inr (.inr (.inl (fun _ => 0)))))) hx hb (hts _ xw1_7) rfl hK hP hD hS hA (fun _ => rfl) (by decide) (by decide) (by decide) (Nat.le_of_ble_eq_true rfl) (Nat.le_of_ble_eq_true rfl) dL_law_21 (fun q_11 cA_12 H hK9 hP hD hS => ?_)
  obtain rfl := xKu hK9 4 rfl
  have hP : va_P D xCl [(q_1, .inr (0, [.ref (u_2 0), .ref (u_2 1), .ref (u_2 2), .ref (u_2 3), .ref (u_2 4), .ref (u_2 5), .ref (u_2 6)])), ((u_2 0), .inr (1, [.ref (u_2 7), .ref (u_2 8), .ref (u_2 9), .ref (u_2 10), .ref (u_2 11), .ref (u_2 12), .int 0, .int 0])), ((u_2 7), .inl (K 0, 12, .inl (fun _ => 0))), ((u_2 8), .inl (K 1, 12, .inl (fun _ => 0))), ((u_2 9), .inl (K 0, 12, .inl (fun _ => 0))), ((u_2 10), .inl (K 0, 8, .inl (fun _ => 0))), ((u_2 11), .inl (K 0, 8, .inl (fun _ => 0))), ((u_2 1), .inr (2, [.ref (u_2 13), .ref (u_2 14), .ref (u_2 15), .ref (u_2 16), .long 0])), ((u_2 15), .inl (K 0, 24, .inl (fun _ => 0))), ((u_2 2), .inr (3, [.ref (u_2 0), .ref (u_2 17), .int 0])), ((u_2 3), .inr (4, [.ref (u_2 0), .ref (u_2 1), .ref (u_2 2), .ref (u_2 18), .ref (u_2 19), .ref (u_2 20)])), ((u_2 20), .inl (K 0, 6, .inl (fun _ => 0))), ((u_2 4), .inr (5, [.ref (u_2 0), .ref (u_2 1), .ref (u_2 3), .ref (u_2 21), .ref (u_2 22), .int 0])), (q_5, .inr (9, [.ref (u_6 0), .ref (u_6 1), .ref (u_6 2), .ref (u_6 3), .ref (u_6 4), .ref (u_6 5), .ref (u_6 6), .int 0, .ref (u_6 7), .ref (u_6 8), .ref (u_6 9), .int 0, .ref (u_6 10), .ref (u_6 11), .ref (u_6 12), .ref (u_6 13), .ref (u_6 14), .ref (u_6 15), .int 0, .ref (u_6 16), .ref (u_6 17), .ref (u_6 18), .long 0, .int 0, .ref (u_6 19), .ref (u_6 20), .int 0, .int 0, .ref (u_6 21), .ref (u_6 22), .int 0, .ref (u_6 23)])), ((u_6 0), .inl (K 0, 12, .inl (fun _ => 0))), ((u_6 1), .inl (K 1, 12, .inl (fun _ => 0))), ((u_6 2), .inl (K 0, 12, .inl (fun _ => 0))), ((u_6 7), .inl (K 0, 8, .inl (fun _ => 0))), ((u_6 8), .inl (K 0, 8, .inl (fun _ => 0))), ((u_6 20), .inl (K 0, 13, .inl (fun _ => 0))), (q_9, .inl (K 3, 1, .inr (.inl (fun _ => 0)))), (q_11, .inl (K 4, 1, .inr (.inr (.inr (.inl (fun _ => 0))))))] H := hP
  have hD : va_D (fun q : Nat => s.heap.size ≤ q) [(q_1, .inr (0, [.ref (u_2 0), .ref (u_2 1), .ref (u_2 2), .ref (u_2 3), .ref (u_2 4), .ref (u_2 5), .ref (u_2 6)])), ((u_2 0), .inr (1, [.ref (u_2 7), .ref (u_2 8), .ref (u_2 9), .ref (u_2 10), .ref (u_2 11), .ref (u_2 12), .int 0, .int 0])), ((u_2 7), .inl (K 0, 12, .inl (fun _ => 0))), ((u_2 8), .inl (K 1, 12, .inl (fun _ => 0))), ((u_2 9), .inl (K 0, 12, .inl (fun _ => 0))), ((u_2 10), .inl (K 0, 8, .inl (fun _ => 0))), ((u_2 11), .inl (K 0, 8, .inl (fun _ => 0))), ((u_2 1), .inr (2, [.ref (u_2 13), .ref (u_2 14), .ref (u_2 15), .ref (u_2 16), .long 0])), ((u_2 15), .inl (K 0, 24, .inl (fun _ => 0))), ((u_2 2), .inr (3, [.ref (u_2 0), .ref (u_2 17), .int 0])), ((u_2 3), .inr (4, [.ref (u_2 0), .ref (u_2 1), .ref (u_2 2), .ref (u_2 18), .ref (u_2 19), .ref (u_2 20)])), ((u_2 20), .inl (K 0, 6, .inl (fun _ => 0))), ((u_2 4), .inr (5, [.ref (u_2 0), .ref (u_2 1), .ref (u_2 3), .ref (u_2 21), .ref (u_2 22), .int 0])), (q_5, .inr (9, [.ref (u_6 0), .ref (u_6 1), .ref (u_6 2), .ref (u_6 3), .ref (u_6 4), .ref (u_6 5), .ref (u_6 6), .int 0, .ref (u_6 7), .ref (u_6 8), .ref (u_6 9), .int 0, .ref (u_6 10), .ref (u_6 11), .ref (u_6 12), .ref (u_6 13), .ref (u_6 14), .ref (u_6 15), .int 0, .ref (u_6 16), .ref (u_6 17), .ref (u_6 18), .long 0, .int 0, .ref (u_6 19), .ref (u_6 20), .int 0, .int 0, .ref (u_6 21), .ref (u_6 22), .int 0, .ref (u_6 23)])), ((u_6 0), .inl (K 0, 12, .inl (fun _ => 0))), ((u_6 1), .inl (K 1, 12, .inl (fun _ => 0))), ((u_6 2), .inl (K 0, 12, .inl (fun _ => 0))), ((u_6 7), .inl (K 0, 8, .inl (fun _ => 0))), ((u_6 8), .inl (K 0, 8, .inl (fun _ => 0))), ((u_6 20), .inl (K 0, 13, .inl (fun _ => 0))), (q_9, .inl (K 3, 1, .inr (.inl (fun _ => 0)))), (q_11, .inl (K 4, 1, .inr (.inr (.inr (.inl (fun _ => 0))))))] := hD
  refine W.widen (k := 148) (n := 1367) (Nat.le_of_ble_eq_true rfl) (Nat.le_of_ble_eq_true rfl) ?_
  refine lv_astore (lv' := [(4, .ref q_11), (3, .ref q_9), (2, .ref q_5), (1, .ref q_1), (0, .ref b)]) hx hb dL_law_23 hl (by decide) rfl (fun ls hl => ?_)
  refine lv_iconst (v := 0) hx hb dL_law_25 (by decide) ?_
  refine lv_istore (lv' := [(5, .int 0), (4, .ref q_11), (3, .ref q_9), (2, .ref q_5), (1, .ref q_1), (0, .ref b)]) hx hb dL_law_26 hl (by decide) rfl (fun ls hl => ?_)
  have hP : va_P D xCl [(q_1, .inr (0, [.ref (u_2 0), .ref (u_2 1), .ref (u_2 2), .ref (u_2 3), .ref (u_2 4), .ref (u_2 5), .ref (u_2 6)])), ((u_2 0), .inr (1, [.ref (u_2 7), .ref (u_2 8), .ref (u_2 9), .ref (u_2 10), .ref (u_2 11), .ref (u_2 12), .int 0, .int 0])), ((u_2 7), .inl (K 0, 12, .inl (fun _ => 0))), ((u_2 8), .inl (K 1, 12, .inl (fun _ => 0))), ((u_2 9), .inl (K 0, 12, .inl (fun _ => 0))), ((u_2 10), .inl (K 0, 8, .inl (fun _ => 0))), ((u_2 11), .inl (K 0, 8, .inl (fun _ => 0))), ((u_2 1), .inr (2, [.ref (u_2 13), .ref (u_2 14), .ref (u_2 15), .ref (u_2 16), .long 0])), ((u_2 15), .inl (K 0, 24, .inl (fun _ => 0))), ((u_2 2), .inr (3, [.ref (u_2 0), .ref (u_2 17), .int 0])), ((u_2 3), .inr (4, [.ref (u_2 0), .ref (u_2 1), .ref (u_2 2), .ref (u_2 18), .ref (u_2 19), .ref (u_2 20)])), ((u_2 20), .inl (K 0, 6, .inl (fun _ => 0))), ((u_2 4), .inr (5, [.ref (u_2 0), .ref (u_2 1), .ref (u_2 3), .ref (u_2 21), .ref (u_2 22), .int 0])), (q_5, .inr (9, [.ref (u_6 0), .ref (u_6 1), .ref (u_6 2), .ref (u_6 3), .ref (u_6 4), .ref (u_6 5), .ref (u_6 6), .int 0, .ref (u_6 7), .ref (u_6 8), .ref (u_6 9), .int 0, .ref (u_6 10), .ref (u_6 11), .ref (u_6 12), .ref (u_6 13), .ref (u_6 14), .ref (u_6 15), .int 0, .ref (u_6 16), .ref (u_6 17), .ref (u_6 18), .long 0, .int 0, .ref (u_6 19), .ref (u_6 20), .int 0, .int 0, .ref (u_6 21), .ref (u_6 22), .int 0, .ref (u_6 23)])), ((u_6 0), .inl (K 0, 12, .inl (fun _ => 0))), ((u_6 1), .inl (K 1, 12, .inl (fun _ => 0))), ((u_6 2), .inl (K 0, 12, .inl (fun _ => 0))), ((u_6 7), .inl (K 0, 8, .inl (fun _ => 0))), ((u_6 8), .inl (K 0, 8, .inl (fun _ => 0))), ((u_6 20), .inl (K 0, 13, .inl (fun _ => 0))), (q_9, .inl (K 3, 1, .inr (.inl (fun _ => 0)))), (q_11, .inl (K 4, 1, .inr (.inr (.inr (.inl (fun _ => 0))))))] H := hP.sub [0, 1, 2, 3, 4, 5, 6, 7, 8, 9, 10, 11, 12, 13, 14, 15, 16, 17, 18, 19, 20, 21] rfl
  have hD : va_D (fun q : Nat => s.heap.size ≤ q) [(q_1, .inr (0, [.ref (u_2 0), .ref (u_2 1), .ref (u_2 2), .ref (u_2 3), .ref (u_2 4), .ref (u_2 5), .ref (u_2 6)])), ((u_2 0), .inr (1, [.ref (u_2 7), .ref (u_2 8), .ref (u_2 9), .ref (u_2 10), .ref (u_2 11), .ref (u_2 12), .int 0, .int 0])), ((u_2 7), .inl (K 0, 12, .inl (fun _ => 0))), ((u_2 8), .inl (K 1, 12, .inl (fun _ => 0))), ((u_2 9), .inl (K 0, 12, .inl (fun _ => 0))), ((u_2 10), .inl (K 0, 8, .inl (fun _ => 0))), ((u_2 11), .inl (K 0, 8, .inl (fun _ => 0))), ((u_2 1), .inr (2, [.ref (u_2 13), .ref (u_2 14), .ref (u_2 15), .ref (u_2 16), .long 0])), ((u_2 15), .inl (K 0, 24, .inl (fun _ => 0))), ((u_2 2), .inr (3, [.ref (u_2 0), .ref (u_2 17), .int 0])), ((u_2 3), .inr (4, [.ref (u_2 0), .ref (u_2 1), .ref (u_2 2), .ref (u_2 18), .ref (u_2 19), .ref (u_2 20)])), ((u_2 20), .inl (K 0, 6, .inl (fun _ => 0))), ((u_2 4), .inr (5, [.ref (u_2 0), .ref (u_2 1), .ref (u_2 3), .ref (u_2 21), .ref (u_2 22), .int 0])), (q_5, .inr (9, [.ref (u_6 0), .ref (u_6 1), .ref (u_6 2), .ref (u_6 3), .ref (u_6 4), .ref (u_6 5), .ref (u_6 6), .int 0, .ref (u_6 7), .ref (u_6 8), .ref (u_6 9), .int 0, .ref (u_6 10), .ref (u_6 11), .ref (u_6 12), .ref (u_6 13), .ref (u_6 14), .ref (u_6 15), .int 0, .ref (u_6 16), .ref (u_6 17), .ref (u_6 18), .long 0, .int 0, .ref (u_6 19), .ref (u_6 20), .int 0, .int 0, .ref (u_6 21), .ref (u_6 22), .int 0, .ref (u_6 23)])), ((u_6 0), .inl (K 0, 12, .inl (fun _ => 0))), ((u_6 1), .inl (K 1, 12, .inl (fun _ => 0))), ((u_6 2), .inl (K 0, 12, .inl (fun _ => 0))), ((u_6 7), .inl (K 0, 8, .inl (fun _ => 0))), ((u_6 8), .inl (K 0, 8, .inl (fun _ => 0))), ((u_6 20), .inl (K 0, 13, .inl (fun _ => 0))), (q_9, .inl (K 3, 1, .inr (.inl (fun _ => 0)))), (q_11, .inl (K 4, 1, .inr (.inr (.inr (.inl (fun _ => 0))))))] := hD.sub [0, 1, 2, 3, 4, 5, 6, 7, 8, 9, 10, 11, 12, 13, 14, 15, 16, 17, 18, 19, 20, 21] (by decide) rfl
  have hl : lv_has ls 9 [(5, .int 0), (4, .ref q_11), (3, .ref q_9), (2, .ref q_5), (1, .ref q_1), (0, .ref b)] := lv_sub hl [0, 1, 2, 3, 4, 5] rfl
  refine W.widen (k := 2000) (n := 40000) (Nat.le_of_ble_eq_true rfl) (Nat.le_of_ble_eq_true rfl) ?_
  refine lv_iload hx hb dL_law_28 (lv_at hl 0 rfl) ?_
  refine lv_aload_n hx hb dL_law_30 rfl (lv_at hl 5 rfl) ?_
  refine va_slen hx hb hX hbl hbA hS dL_law_31 ?_
  refine lv_bipush (v := 6) hx hb dL_law_32 (by decide) ?_
  refine lv_isub hx hb dL_law_34 ?_
  rcases Nat.lt_or_ge L 6 with hq | hq
  · refine lv_icmp_gt (tgt := 2744) hx hb dL_law_35 (by decide) (fun _ => ?_) (fun c9 => absurd (by rcases (show L = 0 ∨ L = 1 ∨ L = 2 ∨ L = 3 ∨ L = 4 ∨ L = 5 by omega) with rfl | rfl | rfl | rfl | rfl | rfl <;> decide) c9)
    exact law_end hd0 hx hb hr hlocks hS (Nat.le_of_ble_eq_true rfl) (Nat.le_of_ble_eq_true rfl)
  · obtain rfl : L = 6 := by omega
    refine lv_icmp_gt (tgt := 2744) hx hb dL_law_35 (by decide) (fun c9 => absurd c9 (by decide)) (fun _ => ?_)
    exact law_switch ⟨hst, hd0, hx, hb, hr, hml, hown, hE, hX, hbl, hlocks⟩ hP hD hS hl
