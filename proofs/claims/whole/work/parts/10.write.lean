set_option maxHeartbeats 4000000 in
set_option maxRecDepth 100000 in
theorem dk_c_requireDomain (l : Launch) (hl9 : l.stackTraces = false) (dC : Nat → ClassId) (dI : Nat → Nat → Nat) (h0 h1 h2 : Nat) (a1 a2 : ClassId) (cp cq : Int32) (cs : Int64) (cn dp dq dg : Int32) (se pu : Nat → Int32)  (sz : Nat) : vx_Met l yX0_requireDomain wsX0_requireDomain ({ frames := 6, cells := 1, slots := 6, locals := 82 }) (va_Pc [.ref h0] (fun U => U.heap.size = sz ∧ va_P (dC, dI) vwCl [(h0, .inr (0, [.int cp, .int cq, .long cs, .int cn, .int dp, .int dq, .int dg, .ref h1, .ref h2])), (h1, .inl (a1, 8, .inl se)), (h2, .inl (a2, 8, .inl pu))] U.heap ∧ va_K (dC, dI) vwCl [(a1, .int), (a2, .int)] U ∧ va_D (fun _ => True) [(h0, .inr (0, [.int cp, .int cq, .long cs, .int cn, .int dp, .int dq, .int dg, .ref h1, .ref h2])), (h1, .inl (a1, 8, .inl se)), (h2, .inl (a2, 8, .inl pu))] ∧ dk_E (va_A [(h0, .inr (0, [.int cp, .int cq, .long cs, .int cn, .int dp, .int dq, .int dg, .ref h1, .ref h2])), (h1, .inl (a1, 8, .inl se)), (h2, .inl (a2, 8, .inl pu))] sz) U U.heap)) (va_Qv (fun u9 : dk_S => u9 = (cp, cq, cs, cn, dp, dq, dg, se, pu) ∧ ¬ dp = 0) (dk_B dC dI (va_A [(h0, .inr (0, [.int cp, .int cq, .long cs, .int cn, .int dp, .int dq, .int dg, .ref h1, .ref h2])), (h1, .inl (a1, 8, .inl se)), (h2, .inl (a2, 8, .inl pu))] sz) h0 h1 h2 a1 a2) (va_A [(h0, .inr (0, [.int cp, .int cq, .long cs, .int cn, .int dp, .int dq, .int dg, .ref h1, .ref h2])), (h1, .inl (a1, 8, .inl se)), (h2, .inl (a2, 8, .inl pu))] sz)) (vx_X (fun _ : dk_S => True) (fun E9 u9 t9 => (u9 = (cp, cq, cs, cn, dp, dq, dg, se, pu) ∧ E9 = "java/lang/IllegalStateException" ∧ dp = 0) ∧ dk_B dC dI (va_A [(h0, .inr (0, [.int cp, .int cq, .long cs, .int cn, .int dp, .int dq, .int dg, .ref h1, .ref h2])), (h1, .inl (a1, 8, .inl se)), (h2, .inl (a2, 8, .inl pu))] sz) h0 h1 h2 a1 a2 u9 t9) (va_A [(h0, .inr (0, [.int cp, .int cq, .long cs, .int cn, .int dp, .int dq, .int dg, .ref h1, .ref h2])), (h1, .inl (a1, 8, .inl se)), (h2, .inl (a2, 8, .inl pu))] sz)) 1 6 (va_A [(h0, .inr (0, [.int cp, .int cq, .long cs, .int cn, .int dp, .int dq, .int dg, .ref h1, .ref h2])), (h1, .inl (a1, 8, .inl se)), (h2, .inl (a2, 8, .inl pu))] sz) := by
  refine vx_ofW (cc := cX0_requireDomain) (maxL := 1) (ret := none) (by decide) rfl ?_
  intro p e s m args below meth c s₁ B hml hEx hv
  obtain ⟨rfl, hsz, hP, hK, hD0, hE⟩ := hv
  have hx := B.exec
  have hb := B.bytes
  have hr := B.returns
  have hts := atoms_spec (ws := wsX0_requireDomain) B.pre
  have hown : s.vm.findClass RX0 = some m.cls := findClass_of_methodNamed B.named
  have hlocks := B.notSynchronized
  subst hsz
  have hD := hD0.self (sz := s.heap.size)
  generalize hAe : va_A [(h0, .inr (0, [.int cp, .int cq, .long cs, .int cn, .int dp, .int dq, .int dg, .ref h1, .ref h2])), (h1, .inl (a1, 8, .inl se)), (h2, .inl (a2, 8, .inl pu))] s.heap.size = A at hD hE ⊢
  have hA : ∀ q : Nat, s.heap.size ≤ q → A q := fun q h => by rw [← hAe]; exact Or.inr h
  have hS : va_S A s.heap s.heap [] := va_S.rf
  have hl := lv_entry ([.ref h0]) (n := 1) (Nat.le_of_ble_eq_true rfl)
  rw [lg_entry_eq]
  generalize (lg_sl ([.ref h0]) ++ List.replicate (1 - (lg_sl ([.ref h0])).length) Slot.unset).toArray = ls at hl ⊢
  have hl : lv_has ls 1 [(0, .ref h0)] := hl
  refine lv_aload_n hx hb dX0_requireDomain_0 rfl (lv_at hl 0 rfl) ?_
  refine va_get (D := (dC, dI)) (ci := 0) (v := .int dp) (C := RX0) (T := TX0) (N := 9) hx hb hts (by decide +kernel) hown hK hP 0 rfl rfl 4 (by decide) (hts (.fieldLink RX0 66 "DomainKeys" "domainP" "I") (by decide +kernel)) (fun _ h9 => h9) rfl dX0_requireDomain_1 ?_
  refine lv_if_ne (tgt := 17) hx hb dX0_requireDomain_4 (by decide) (fun c_4 => ?_) (fun c_4 => ?_)
  · refine W.widen (k := 1) (n := 6) (Nat.le_of_ble_eq_true rfl) (Nat.le_of_ble_eq_true rfl) ?_
    exact vx_ret (W.vret hx hb hr (fun t ht hW => ⟨⟨(cp, cq, cs, cn, dp, dq, dg, se, pu), rfl, ⟨rfl, c_4⟩, by rw [ht]; exact hP, va_K.moved hW.alike hK, hD⟩, hS.F ht⟩) hS.2.2 dX0_requireDomain_17)
  · obtain ⟨sa_7, hs_7⟩ := hE.2.2.2.2.1 (64, "no domain") (by decide +kernel)
    refine vx_throwS (own := RX0) (cls := "java/lang/IllegalStateException") (text := "no domain") (names := ["java/lang/RuntimeException", "java/lang/Exception"]) (ik := 41) (is := 64) (ic := 45) (rest := []) hx hb hl9 hown (by decide +kernel) (by decide +kernel) (hts (.classLink RX0 41 "java/lang/IllegalStateException") (by decide +kernel)) (hts (.initialized "java/lang/IllegalStateException") (by decide +kernel)) hs_7 (vx_hat (L := vx_atS RX0 45 "java/lang/IllegalStateException" ["java/lang/RuntimeException", "java/lang/Exception"]) (B := [.castable "java/lang/IllegalStateException" "java/lang/IllegalStateException", .declares (Bundle.initS "java/lang/RuntimeException"), .declares (Bundle.initS "java/lang/Exception"), .declares (Bundle.initS "java/lang/Throwable")]) (fun w hw => hts w ((by decide +kernel : ∀ w ∈ (vx_atS RX0 45 "java/lang/IllegalStateException" ["java/lang/RuntimeException", "java/lang/Exception"]).filter goodWord, w ∈ wsX0_requireDomain) w hw)) (by decide +kernel) (vx_c (va_Nw.use rfl (hE.2.2.1 "java/lang/IllegalStateException" (by decide +kernel))) (vx_c (va_Nw.use rfl (hE.2.2.2.1 "java/lang/RuntimeException" (by decide +kernel))) (vx_c (va_Nw.use rfl (hE.2.2.2.1 "java/lang/Exception" (by decide +kernel))) (vx_c (va_Nw.use rfl (hE.2.2.2.1 "java/lang/Throwable" (by decide +kernel))) (vx_n)))))) (by decide +kernel) hE.1 hE.2.1 hS (hl.1.trans hml.symm) dX0_requireDomain_7 dX0_requireDomain_10 dX0_requireDomain_11 dX0_requireDomain_13 dX0_requireDomain_16 (fun x hx => (hEx x hx).elim) (Nat.le_of_ble_eq_true rfl) (Nat.le_of_ble_eq_true rfl) (Nat.le_of_ble_eq_true rfl) (Nat.le_of_ble_eq_true rfl) hlocks (fun t ha hz hk => ?_) hS.2.2 (Nat.le_of_ble_eq_true rfl) (Nat.le_of_ble_eq_true rfl)
    exact ⟨(cp, cq, cs, cn, dp, dq, dg, se, pu), trivial, ⟨⟨rfl, rfl, c_4⟩, hP.kept (fun k q hq => hk q.1 (hP k q hq).lt), va_K.moved ha hK, hD⟩, dk_F hS hz hk⟩

set_option maxHeartbeats 4000000 in
set_option maxRecDepth 100000 in
theorem dk_c_requireKey (l : Launch) (hl9 : l.stackTraces = false) (dC : Nat → ClassId) (dI : Nat → Nat → Nat) (h0 h1 h2 : Nat) (a1 a2 : ClassId) (cp cq : Int32) (cs : Int64) (cn dp dq dg : Int32) (se pu : Nat → Int32) (x : Int32) (sz : Nat) : vx_Met l yX0_requireKey wsX0_requireKey ({ frames := 6, cells := 1, slots := 6, locals := 82 }) (va_Pc [.ref h0, .int x] (fun U => U.heap.size = sz ∧ va_P (dC, dI) vwCl [(h0, .inr (0, [.int cp, .int cq, .long cs, .int cn, .int dp, .int dq, .int dg, .ref h1, .ref h2])), (h1, .inl (a1, 8, .inl se)), (h2, .inl (a2, 8, .inl pu))] U.heap ∧ va_K (dC, dI) vwCl [(a1, .int), (a2, .int)] U ∧ va_D (fun _ => True) [(h0, .inr (0, [.int cp, .int cq, .long cs, .int cn, .int dp, .int dq, .int dg, .ref h1, .ref h2])), (h1, .inl (a1, 8, .inl se)), (h2, .inl (a2, 8, .inl pu))] ∧ dk_E (va_A [(h0, .inr (0, [.int cp, .int cq, .long cs, .int cn, .int dp, .int dq, .int dg, .ref h1, .ref h2])), (h1, .inl (a1, 8, .inl se)), (h2, .inl (a2, 8, .inl pu))] sz) U U.heap)) (va_Qv (fun u9 : dk_S => u9 = (cp, cq, cs, cn, dp, dq, dg, se, pu) ∧ dk_hk se x) (dk_B dC dI (va_A [(h0, .inr (0, [.int cp, .int cq, .long cs, .int cn, .int dp, .int dq, .int dg, .ref h1, .ref h2])), (h1, .inl (a1, 8, .inl se)), (h2, .inl (a2, 8, .inl pu))] sz) h0 h1 h2 a1 a2) (va_A [(h0, .inr (0, [.int cp, .int cq, .long cs, .int cn, .int dp, .int dq, .int dg, .ref h1, .ref h2])), (h1, .inl (a1, 8, .inl se)), (h2, .inl (a2, 8, .inl pu))] sz)) (vx_X (fun _ : dk_S => True) (fun E9 u9 t9 => (u9 = (cp, cq, cs, cn, dp, dq, dg, se, pu) ∧ E9 = "java/util/NoSuchElementException" ∧ ¬ dk_hk se x) ∧ dk_B dC dI (va_A [(h0, .inr (0, [.int cp, .int cq, .long cs, .int cn, .int dp, .int dq, .int dg, .ref h1, .ref h2])), (h1, .inl (a1, 8, .inl se)), (h2, .inl (a2, 8, .inl pu))] sz) h0 h1 h2 a1 a2 u9 t9) (va_A [(h0, .inr (0, [.int cp, .int cq, .long cs, .int cn, .int dp, .int dq, .int dg, .ref h1, .ref h2])), (h1, .inl (a1, 8, .inl se)), (h2, .inl (a2, 8, .inl pu))] sz)) 1 6 (va_A [(h0, .inr (0, [.int cp, .int cq, .long cs, .int cn, .int dp, .int dq, .int dg, .ref h1, .ref h2])), (h1, .inl (a1, 8, .inl se)), (h2, .inl (a2, 8, .inl pu))] sz) := by
  refine vx_ofW (cc := cX0_requireKey) (maxL := 2) (ret := none) (by decide) rfl ?_
  intro p e s m args below meth c s₁ B hml hEx hv
  obtain ⟨rfl, hsz, hP, hK, hD0, hE⟩ := hv
  have hx := B.exec
  have hb := B.bytes
  have hr := B.returns
  have hts := atoms_spec (ws := wsX0_requireKey) B.pre
  have hown : s.vm.findClass RX0 = some m.cls := findClass_of_methodNamed B.named
  have hlocks := B.notSynchronized
  subst hsz
  have hD := hD0.self (sz := s.heap.size)
  generalize hAe : va_A [(h0, .inr (0, [.int cp, .int cq, .long cs, .int cn, .int dp, .int dq, .int dg, .ref h1, .ref h2])), (h1, .inl (a1, 8, .inl se)), (h2, .inl (a2, 8, .inl pu))] s.heap.size = A at hD hE ⊢
  have hA : ∀ q : Nat, s.heap.size ≤ q → A q := fun q h => by rw [← hAe]; exact Or.inr h
  have hS : va_S A s.heap s.heap [] := va_S.rf
  have hl := lv_entry ([.ref h0, .int x]) (n := 2) (Nat.le_of_ble_eq_true rfl)
  rw [lg_entry_eq]
  generalize (lg_sl ([.ref h0, .int x]) ++ List.replicate (2 - (lg_sl ([.ref h0, .int x])).length) Slot.unset).toArray = ls at hl ⊢
  have hl : lv_has ls 2 [(0, .ref h0), (1, .int x)] := hl
  refine lv_iload_n hx hb dX0_requireKey_0 rfl (lv_at hl 1 rfl) ?_
  refine vp_callSi (W.runS (As := [.int x]) (rest := []) ⟨hx, hb, hml, hown, hts⟩ (dk_c_isSlot l x) (va_cwS 1 hts gX0_requireKey_X0_isSlot rfl rfl rfl (by decide +kernel) ⟨Nat.le_of_ble_eq_true rfl, Nat.le_of_ble_eq_true rfl⟩) ⟨fun _ _ _ _ q9 => q9, fun U hU hW => ⟨rfl, trivial⟩⟩ rfl rfl hl.1 rfl (lv_room (Nat.le_of_ble_eq_true rfl)) dX0_requireKey_1 ⟨Nat.le_of_ble_eq_true rfl, Nat.le_of_ble_eq_true rfl⟩) (fun r_1 hr_1 => ?_)
  refine lv_if_eq (tgt := 16) hx hb dX0_requireKey_4 (by decide) (fun c_4 => ?_) (fun c_4 => ?_)
  · have hno : ¬ ∃ j : Nat, j < 8 ∧ x = nI j := by
      rcases hr_1 with ⟨q, -⟩ | ⟨-, q⟩
      · rw [q] at c_4; exact absurd c_4 (by decide)
      · exact q
    obtain ⟨sa_16, hs_16⟩ := hE.2.2.2.2.1 (128, "no key") (by decide +kernel)
    refine dk_throwX (own := RX0) (cls := "java/util/NoSuchElementException") (text := "no key") (Y9 := "java/lang/RuntimeException") (r9 := ["java/lang/Exception"]) (ik := 126) (is := 128) (ic := 130) (rest := []) hx hb hl9 hown (by decide +kernel) (by decide +kernel) (hts (.classLink RX0 126 "java/util/NoSuchElementException") (by decide +kernel)) (hts (.initialized "java/util/NoSuchElementException") (by decide +kernel)) hs_16 (vx_hat (L := dk_atX RX0 130 "java/util/NoSuchElementException" ["java/lang/RuntimeException", "java/lang/Exception"]) (B := [.castable "java/util/NoSuchElementException" "java/util/NoSuchElementException", .declares (Bundle.initS "java/lang/RuntimeException"), .declares (Bundle.initS "java/lang/Exception"), .declares (Bundle.initS "java/lang/Throwable")]) (fun w hw => hts w ((by decide +kernel : ∀ w ∈ (dk_atX RX0 130 "java/util/NoSuchElementException" ["java/lang/RuntimeException", "java/lang/Exception"]).filter goodWord, w ∈ wsX0_requireKey) w hw)) (by decide +kernel) (vx_c (va_Nw.use rfl (hE.2.2.1 "java/util/NoSuchElementException" (by decide +kernel))) (vx_c (va_Nw.use rfl (hE.2.2.2.1 "java/lang/RuntimeException" (by decide +kernel))) (vx_c (va_Nw.use rfl (hE.2.2.2.1 "java/lang/Exception" (by decide +kernel))) (vx_c (va_Nw.use rfl (hE.2.2.2.1 "java/lang/Throwable" (by decide +kernel))) (vx_n)))))) (by decide +kernel) hE.1 hE.2.1 hS (hl.1.trans hml.symm) dX0_requireKey_16 dX0_requireKey_19 dX0_requireKey_20 dX0_requireKey_22 dX0_requireKey_25 (fun x hx => (hEx x hx).elim) (Nat.le_of_ble_eq_true rfl) (Nat.le_of_ble_eq_true rfl) (Nat.le_of_ble_eq_true rfl) (Nat.le_of_ble_eq_true rfl) hlocks (fun t ha hz hk => ?_) hS.2.2 (Nat.le_of_ble_eq_true rfl) (Nat.le_of_ble_eq_true rfl)
    exact ⟨(cp, cq, cs, cn, dp, dq, dg, se, pu), trivial, ⟨⟨rfl, rfl, fun q => hno (dk_sl_of.mp q.1)⟩, hP.kept (fun k q hq => hk q.1 (hP k q hq).lt), va_K.moved ha hK, hD⟩, dk_F hS hz hk⟩
  · obtain ⟨j, hj, rfl⟩ : ∃ j : Nat, j < 8 ∧ x = nI j := by
      rcases hr_1 with ⟨-, q⟩ | ⟨q, -⟩
      · exact q
      · exact absurd q c_4
    refine lv_aload_n hx hb dX0_requireKey_7 rfl (lv_at hl 0 rfl) ?_
    refine va_get (D := (dC, dI)) (ci := 0) (v := .ref h1) (C := RX0) (T := TX0) (N := 9) hx hb hts (by decide +kernel) hown hK hP 0 rfl rfl 7 (by decide) (hts (.fieldLink RX0 9 "DomainKeys" "secrets" "[I") (by decide +kernel)) (fun _ h9 => h9) rfl dX0_requireKey_8 ?_
    refine lv_iload_n hx hb dX0_requireKey_11 rfl (lv_at hl 1 rfl) ?_
    refine va_iald hx hb hK hP 1 0 rfl rfl (vp_in_nI hj (by decide)) dX0_requireKey_12 ?_
    refine lv_topi (fun v_12 ev_12 => ?_)
    have ev_12 : v_12 = se j := ev_12.trans (congrArg se (nI_clamp (Nat.lt_trans hj (by decide))))
    subst ev_12
    refine lv_if_ne (tgt := 26) hx hb dX0_requireKey_13 (by decide) (fun c_13 => ?_) (fun c_13 => ?_)
    · refine W.widen (k := 1) (n := 6) (Nat.le_of_ble_eq_true rfl) (Nat.le_of_ble_eq_true rfl) ?_
      exact vx_ret (W.vret hx hb hr (fun t ht hW => ⟨⟨(cp, cq, cs, cn, dp, dq, dg, se, pu), rfl, ⟨rfl, (dk_hk_nI hj).mpr c_13⟩, by rw [ht]; exact hP, va_K.moved hW.alike hK, hD⟩, hS.F ht⟩) hS.2.2 dX0_requireKey_26)
    · obtain ⟨sa_16, hs_16⟩ := hE.2.2.2.2.1 (128, "no key") (by decide +kernel)
      refine dk_throwX (own := RX0) (cls := "java/util/NoSuchElementException") (text := "no key") (Y9 := "java/lang/RuntimeException") (r9 := ["java/lang/Exception"]) (ik := 126) (is := 128) (ic := 130) (rest := []) hx hb hl9 hown (by decide +kernel) (by decide +kernel) (hts (.classLink RX0 126 "java/util/NoSuchElementException") (by decide +kernel)) (hts (.initialized "java/util/NoSuchElementException") (by decide +kernel)) hs_16 (vx_hat (L := dk_atX RX0 130 "java/util/NoSuchElementException" ["java/lang/RuntimeException", "java/lang/Exception"]) (B := [.castable "java/util/NoSuchElementException" "java/util/NoSuchElementException", .declares (Bundle.initS "java/lang/RuntimeException"), .declares (Bundle.initS "java/lang/Exception"), .declares (Bundle.initS "java/lang/Throwable")]) (fun w hw => hts w ((by decide +kernel : ∀ w ∈ (dk_atX RX0 130 "java/util/NoSuchElementException" ["java/lang/RuntimeException", "java/lang/Exception"]).filter goodWord, w ∈ wsX0_requireKey) w hw)) (by decide +kernel) (vx_c (va_Nw.use rfl (hE.2.2.1 "java/util/NoSuchElementException" (by decide +kernel))) (vx_c (va_Nw.use rfl (hE.2.2.2.1 "java/lang/RuntimeException" (by decide +kernel))) (vx_c (va_Nw.use rfl (hE.2.2.2.1 "java/lang/Exception" (by decide +kernel))) (vx_c (va_Nw.use rfl (hE.2.2.2.1 "java/lang/Throwable" (by decide +kernel))) (vx_n)))))) (by decide +kernel) hE.1 hE.2.1 hS (hl.1.trans hml.symm) dX0_requireKey_16 dX0_requireKey_19 dX0_requireKey_20 dX0_requireKey_22 dX0_requireKey_25 (fun x hx => (hEx x hx).elim) (Nat.le_of_ble_eq_true rfl) (Nat.le_of_ble_eq_true rfl) (Nat.le_of_ble_eq_true rfl) (Nat.le_of_ble_eq_true rfl) hlocks (fun t ha hz hk => ?_) hS.2.2 (Nat.le_of_ble_eq_true rfl) (Nat.le_of_ble_eq_true rfl)
      exact ⟨(cp, cq, cs, cn, dp, dq, dg, se, pu), trivial, ⟨⟨rfl, rfl, fun q => (dk_hk_nI hj).mp q c_13⟩, hP.kept (fun k q hq => hk q.1 (hP k q hq).lt), va_K.moved ha hK, hD⟩, dk_F hS hz hk⟩

set_option maxHeartbeats 4000000 in
set_option maxRecDepth 100000 in
theorem dk_c_clearSlot (l : Launch) (dC : Nat → ClassId) (dI : Nat → Nat → Nat) (h0 h1 h2 : Nat) (a1 a2 : ClassId) (cp cq : Int32) (cs : Int64) (cn dp dq dg : Int32) (se pu : Nat → Int32) (j : Nat) (hj : j < 8) (sz : Nat) : Met l yX0_clearSlot wsX0_clearSlot ({ frames := 0, cells := 0, slots := 0, locals := 0 }) (va_Pc [.ref h0, .int (nI j)] (fun U => U.heap.size = sz ∧ va_P (dC, dI) vwCl [(h0, .inr (0, [.int cp, .int cq, .long cs, .int cn, .int dp, .int dq, .int dg, .ref h1, .ref h2])), (h1, .inl (a1, 8, .inl se)), (h2, .inl (a2, 8, .inl pu))] U.heap ∧ va_K (dC, dI) vwCl [(a1, .int), (a2, .int)] U ∧ va_D (fun _ => True) [(h0, .inr (0, [.int cp, .int cq, .long cs, .int cn, .int dp, .int dq, .int dg, .ref h1, .ref h2])), (h1, .inl (a1, 8, .inl se)), (h2, .inl (a2, 8, .inl pu))])) (va_Qv (fun u9 : dk_S => u9 = (cp, cq, cs, cn, dp, dq, dg, upd se j 0, upd pu j 0)) (dk_B dC dI (va_A [(h0, .inr (0, [.int cp, .int cq, .long cs, .int cn, .int dp, .int dq, .int dg, .ref h1, .ref h2])), (h1, .inl (a1, 8, .inl se)), (h2, .inl (a2, 8, .inl pu))] sz) h0 h1 h2 a1 a2) (va_A [(h0, .inr (0, [.int cp, .int cq, .long cs, .int cn, .int dp, .int dq, .int dg, .ref h1, .ref h2])), (h1, .inl (a1, 8, .inl se)), (h2, .inl (a2, 8, .inl pu))] sz)) 0 0 (va_A [(h0, .inr (0, [.int cp, .int cq, .long cs, .int cn, .int dp, .int dq, .int dg, .ref h1, .ref h2])), (h1, .inl (a1, 8, .inl se)), (h2, .inl (a2, 8, .inl pu))] sz) := by
  refine Met.ofW (cc := cX0_clearSlot) (maxL := 2) (ret := none) (by decide) rfl ?_
  intro p e s m args below meth c s₁ B hml hv
  obtain ⟨rfl, hsz, hP, hK, hD0⟩ := hv
  have hx := B.exec
  have hb := B.bytes
  have hr := B.returns
  have hts := atoms_spec (ws := wsX0_clearSlot) B.pre
  have hown : s.vm.findClass RX0 = some m.cls := findClass_of_methodNamed B.named
  have hlocks := B.notSynchronized
  subst hsz
  have hD := hD0.self (sz := s.heap.size)
  generalize hAe : va_A [(h0, .inr (0, [.int cp, .int cq, .long cs, .int cn, .int dp, .int dq, .int dg, .ref h1, .ref h2])), (h1, .inl (a1, 8, .inl se)), (h2, .inl (a2, 8, .inl pu))] s.heap.size = A at hD ⊢
  have hA : ∀ q : Nat, s.heap.size ≤ q → A q := fun q h => by rw [← hAe]; exact Or.inr h
  have hS : va_S A s.heap s.heap [] := va_S.rf
  have hl := lv_entry ([.ref h0, .int (nI j)]) (n := 2) (Nat.le_of_ble_eq_true rfl)
  rw [lg_entry_eq]
  generalize (lg_sl ([.ref h0, .int (nI j)]) ++ List.replicate (2 - (lg_sl ([.ref h0, .int (nI j)])).length) Slot.unset).toArray = ls at hl ⊢
  have hl : lv_has ls 2 [(0, .ref h0), (1, .int (nI j))] := hl
  refine lv_aload_n hx hb dX0_clearSlot_0 rfl (lv_at hl 0 rfl) ?_
  refine va_get (D := (dC, dI)) (ci := 0) (v := .ref h1) (C := RX0) (T := TX0) (N := 9) hx hb hts (by decide +kernel) hown hK hP 0 rfl rfl 7 (by decide) (hts (.fieldLink RX0 9 "DomainKeys" "secrets" "[I") (by decide +kernel)) (fun _ h9 => h9) rfl dX0_clearSlot_1 ?_
  refine lv_iload_n hx hb dX0_clearSlot_4 rfl (lv_at hl 1 rfl) ?_
  refine lv_iconst (v := 0) hx hb dX0_clearSlot_5 (by decide) ?_
  refine va_iast hx hb hK hP hD hS 1 0 rfl rfl (vp_in_nI hj (by decide)) dX0_clearSlot_6 (fun H locs hP hD hS => ?_)
  rw [(nI_clamp (Nat.lt_trans hj (by decide)))] at hP hD
  have hP : va_P (dC, dI) vwCl [(h0, .inr (0, [.int cp, .int cq, .long cs, .int cn, .int dp, .int dq, .int dg, .ref h1, .ref h2])), (h1, .inl (a1, 8, .inl (upd se j 0))), (h2, .inl (a2, 8, .inl pu))] H := hP
  have hD : va_D A [(h0, .inr (0, [.int cp, .int cq, .long cs, .int cn, .int dp, .int dq, .int dg, .ref h1, .ref h2])), (h1, .inl (a1, 8, .inl (upd se j 0))), (h2, .inl (a2, 8, .inl pu))] := hD
  refine lv_aload_n hx hb dX0_clearSlot_7 rfl (lv_at hl 0 rfl) ?_
  refine va_get (D := (dC, dI)) (ci := 0) (v := .ref h2) (C := RX0) (T := TX0) (N := 9) hx hb hts (by decide +kernel) hown hK hP 0 rfl rfl 8 (by decide) (hts (.fieldLink RX0 13 "DomainKeys" "publicNumbers" "[I") (by decide +kernel)) (fun _ h9 => h9) rfl dX0_clearSlot_8 ?_
  refine lv_iload_n hx hb dX0_clearSlot_11 rfl (lv_at hl 1 rfl) ?_
  refine lv_iconst (v := 0) hx hb dX0_clearSlot_12 (by decide) ?_
  refine va_iast hx hb hK hP hD hS 2 1 rfl rfl (vp_in_nI hj (by decide)) dX0_clearSlot_13 (fun H locs hP hD hS => ?_)
  rw [(nI_clamp (Nat.lt_trans hj (by decide)))] at hP hD
  have hP : va_P (dC, dI) vwCl [(h0, .inr (0, [.int cp, .int cq, .long cs, .int cn, .int dp, .int dq, .int dg, .ref h1, .ref h2])), (h1, .inl (a1, 8, .inl (upd se j 0))), (h2, .inl (a2, 8, .inl (upd pu j 0)))] H := hP
  have hD : va_D A [(h0, .inr (0, [.int cp, .int cq, .long cs, .int cn, .int dp, .int dq, .int dg, .ref h1, .ref h2])), (h1, .inl (a1, 8, .inl (upd se j 0))), (h2, .inl (a2, 8, .inl (upd pu j 0)))] := hD
  exact W.vret hx hb hr (fun t ht hW => ⟨⟨(cp, cq, cs, cn, dp, dq, dg, (upd se j 0), (upd pu j 0)), rfl, rfl, by rw [ht]; exact hP, va_K.moved hW.alike hK, hD⟩, hS.F ht⟩) hS.2.2 dX0_clearSlot_14

set_option maxHeartbeats 4000000 in
set_option maxRecDepth 100000 in
theorem dk_c_generate (l : Launch) (dC : Nat → ClassId) (dI : Nat → Nat → Nat) (h0 h1 h2 : Nat) (a1 a2 : ClassId) (cp cq : Int32) (cs : Int64) (cn dp dq dg : Int32) (se pu : Nat → Int32) (sd : Int64) (sz : Nat) : Met l yX0_generate wsX0_generate ({ frames := 3, cells := 0, slots := 0, locals := 74 }) (va_Pc [.ref h0, .long sd] (fun U => U.heap.size = sz ∧ va_P (dC, dI) vwCl [(h0, .inr (0, [.int cp, .int cq, .long cs, .int cn, .int dp, .int dq, .int dg, .ref h1, .ref h2])), (h1, .inl (a1, 8, .inl se)), (h2, .inl (a2, 8, .inl pu))] U.heap ∧ va_K (dC, dI) vwCl [(a1, .int), (a2, .int)] U ∧ va_D (fun _ => True) [(h0, .inr (0, [.int cp, .int cq, .long cs, .int cn, .int dp, .int dq, .int dg, .ref h1, .ref h2])), (h1, .inl (a1, 8, .inl se)), (h2, .inl (a2, 8, .inl pu))])) (va_Qi (fun (r9 : Int32) (u9 : dk_S) => dk_Mk sd r9 ∧ ((r9 < 0 ∧ u9 = (cp, cq, cs, cn, dp, dq, dg, se, pu)) ∨ ∃ n9 : Nat, n9 < 64 ∧ dk_ok sd n9 ∧ dk_pr (dk_q sd) ∧ r9 = nI n9 ∧ u9 = (nI (dk_try sd n9), nI (dk_q sd), sd, nI n9, dp, dq, dg, se, pu))) (dk_B dC dI (va_A [(h0, .inr (0, [.int cp, .int cq, .long cs, .int cn, .int dp, .int dq, .int dg, .ref h1, .ref h2])), (h1, .inl (a1, 8, .inl se)), (h2, .inl (a2, 8, .inl pu))] sz) h0 h1 h2 a1 a2) (va_A [(h0, .inr (0, [.int cp, .int cq, .long cs, .int cn, .int dp, .int dq, .int dg, .ref h1, .ref h2])), (h1, .inl (a1, 8, .inl se)), (h2, .inl (a2, 8, .inl pu))] sz)) 0 0 (va_A [(h0, .inr (0, [.int cp, .int cq, .long cs, .int cn, .int dp, .int dq, .int dg, .ref h1, .ref h2])), (h1, .inl (a1, 8, .inl se)), (h2, .inl (a2, 8, .inl pu))] sz) := by
  refine Met.ofW (cc := cX0_generate) (maxL := 4) (ret := (some .int)) (by decide) rfl ?_
  intro p e s m args below meth c s₁ B hml hv
  obtain ⟨rfl, hsz, hP, hK, hD0⟩ := hv
  have hx := B.exec
  have hb := B.bytes
  have hr := B.returns
  have hts := atoms_spec (ws := wsX0_generate) B.pre
  have hown : s.vm.findClass RX0 = some m.cls := findClass_of_methodNamed B.named
  have hlocks := B.notSynchronized
  subst hsz
  have hD := hD0.self (sz := s.heap.size)
  generalize hAe : va_A [(h0, .inr (0, [.int cp, .int cq, .long cs, .int cn, .int dp, .int dq, .int dg, .ref h1, .ref h2])), (h1, .inl (a1, 8, .inl se)), (h2, .inl (a2, 8, .inl pu))] s.heap.size = A at hD ⊢
  have hA : ∀ q : Nat, s.heap.size ≤ q → A q := fun q h => by rw [← hAe]; exact Or.inr h
  have hS : va_S A s.heap s.heap [] := va_S.rf
  have hl := lv_entry ([.ref h0, .long sd]) (n := 4) (Nat.le_of_ble_eq_true rfl)
  rw [lg_entry_eq]
  generalize (lg_sl ([.ref h0, .long sd]) ++ List.replicate (4 - (lg_sl ([.ref h0, .long sd])).length) Slot.unset).toArray = ls at hl ⊢
  have hl : lv_has ls 4 [(0, .ref h0), (1, .long sd)] := hl
  refine lv_lload_n hx hb dX0_generate_0 rfl (lv_at hl 1 rfl) ?_
  refine vp_callSi (W.runS (As := [.long sd]) (rest := []) ⟨hx, hb, hml, hown, hts⟩ (dk_c_counterFrom l sd) (va_cwS 1 hts gX0_generate_X0_counterFrom rfl rfl rfl (by decide +kernel) ⟨Nat.le_of_ble_eq_true rfl, Nat.le_of_ble_eq_true rfl⟩) ⟨fun _ _ _ _ q9 => q9, fun U hU hW => ⟨rfl, trivial⟩⟩ rfl rfl hl.1 rfl (lv_room (Nat.le_of_ble_eq_true rfl)) dX0_generate_1 ⟨Nat.le_of_ble_eq_true rfl, Nat.le_of_ble_eq_true rfl⟩) (fun r_1 hr_1 => ?_)
  refine lv_istore_n (lv' := [(3, .int r_1), (0, .ref h0), (1, .long sd)]) hx hb dX0_generate_4 rfl hl (by decide) rfl (fun ls hl => ?_)
  refine lv_iload_n hx hb dX0_generate_5 rfl (lv_at hl 0 rfl) ?_
  refine lv_if_lt (tgt := 40) hx hb dX0_generate_6 (by decide) (fun c_6 => ?_) (fun c_6 => ?_)
  · refine lv_iload_n hx hb dX0_generate_40 rfl (lv_at hl 0 rfl) ?_
    exact W.iret (v := r_1) hx hb hr (fun t ht hW => ⟨⟨r_1, (cp, cq, cs, cn, dp, dq, dg, se, pu), rfl, ⟨hr_1, Or.inl ⟨c_6, rfl⟩⟩, by rw [ht]; exact hP, va_K.moved hW.alike hK, hD⟩, hS.F ht⟩) hS.2.2 dX0_generate_41
  · obtain ⟨n9, hn9, hok, hfi, hpq, rfl⟩ : ∃ n9 : Nat, n9 < 64 ∧ dk_ok sd n9 ∧ (∀ j, j < n9 → ¬ dk_ok sd j) ∧ dk_pr (dk_q sd) ∧ r_1 = nI n9 := by
      rcases hr_1 with ⟨-, q⟩ | ⟨q1, n9, q2, q3, q4, q⟩ | ⟨-, -, q⟩
      · exact absurd (by rw [q]; decide) c_6
      · exact ⟨n9, q2, q3, q4, q1, q⟩
      · exact absurd (by rw [q]; decide) c_6
    refine lv_aload_n hx hb dX0_generate_9 rfl (lv_at hl 1 rfl) ?_
    refine lv_lload_n hx hb dX0_generate_10 rfl (lv_at hl 2 rfl) ?_
    refine vp_callSi (W.runS (As := [.long sd]) (rest := [.ref h0]) ⟨hx, hb, hml, hown, hts⟩ (dk_c_orderFrom l sd) (va_cwS 1 hts gX0_generate_X0_orderFrom rfl rfl rfl (by decide +kernel) ⟨Nat.le_of_ble_eq_true rfl, Nat.le_of_ble_eq_true rfl⟩) ⟨fun _ _ _ _ q9 => q9, fun U hU hW => ⟨rfl, trivial⟩⟩ rfl rfl hl.1 rfl (lv_room (Nat.le_of_ble_eq_true rfl)) dX0_generate_11 ⟨Nat.le_of_ble_eq_true rfl, Nat.le_of_ble_eq_true rfl⟩) (fun r_11 hr_11 => ?_)
    subst hr_11
    refine va_put (D := (dC, dI)) (ci := 0) (v := .int (nI (dk_q sd))) (ty := .int) (C := RX0) (T := TX0) (N := 9) hx hb hts (by decide +kernel) tyX0 tyX0_ok nmX0 hown hK hP hD hS 0 rfl rfl 1 (by decide) (hts (.fieldLink RX0 23 "DomainKeys" "candidateQ" "I") (by decide +kernel)) (fun _ h9 => h9) rfl (by decide +kernel) rfl rfl (Nat.le_of_ble_eq_true rfl) dX0_generate_14 (fun H locs hP hD hS => ?_)
    have hP : va_P (dC, dI) vwCl [(h0, .inr (0, [.int cp, .int (nI (dk_q sd)), .long cs, .int cn, .int dp, .int dq, .int dg, .ref h1, .ref h2])), (h1, .inl (a1, 8, .inl se)), (h2, .inl (a2, 8, .inl pu))] H := hP
    have hD : va_D A [(h0, .inr (0, [.int cp, .int (nI (dk_q sd)), .long cs, .int cn, .int dp, .int dq, .int dg, .ref h1, .ref h2])), (h1, .inl (a1, 8, .inl se)), (h2, .inl (a2, 8, .inl pu))] := hD
    refine lv_aload_n hx hb dX0_generate_17 rfl (lv_at hl 1 rfl) ?_
    refine lv_lload_n hx hb dX0_generate_18 rfl (lv_at hl 2 rfl) ?_
    refine lv_aload_n hx hb dX0_generate_19 rfl (lv_at hl 1 rfl) ?_
    refine va_get (D := (dC, dI)) (ci := 0) (v := .int (nI (dk_q sd))) (C := RX0) (T := TX0) (N := 9) hx hb hts (by decide +kernel) hown hK hP 0 rfl rfl 1 (by decide) (hts (.fieldLink RX0 23 "DomainKeys" "candidateQ" "I") (by decide +kernel)) (fun _ h9 => h9) rfl dX0_generate_20 ?_
    refine lv_iload_n hx hb dX0_generate_23 rfl (lv_at hl 0 rfl) ?_
    refine vp_callSi (W.runS (As := [.long sd, .int (nI (dk_q sd)), .int (nI n9)]) (rest := [.ref h0]) ⟨hx, hb, hml, hown, hts⟩ (dk_c_fieldTry l sd n9 hn9) (va_cwS 3 hts gX0_generate_X0_fieldTry rfl rfl rfl (by decide +kernel) ⟨Nat.le_of_ble_eq_true rfl, Nat.le_of_ble_eq_true rfl⟩) ⟨fun _ _ _ _ q9 => q9, fun U hU hW => ⟨rfl, trivial⟩⟩ rfl rfl hl.1 rfl (lv_room (Nat.le_of_ble_eq_true rfl)) dX0_generate_24 ⟨Nat.le_of_ble_eq_true rfl, Nat.le_of_ble_eq_true rfl⟩) (fun r_24 hr_24 => ?_)
    subst hr_24
    refine va_put (D := (dC, dI)) (ci := 0) (v := .int (nI (dk_try sd n9))) (ty := .int) (C := RX0) (T := TX0) (N := 9) hx hb hts (by decide +kernel) tyX0 tyX0_ok nmX0 hown hK hP hD hS 0 rfl rfl 0 (by decide) (hts (.fieldLink RX0 31 "DomainKeys" "candidateP" "I") (by decide +kernel)) (fun _ h9 => h9) rfl (by decide +kernel) rfl rfl (Nat.le_of_ble_eq_true rfl) dX0_generate_27 (fun H locs hP hD hS => ?_)
    have hP : va_P (dC, dI) vwCl [(h0, .inr (0, [.int (nI (dk_try sd n9)), .int (nI (dk_q sd)), .long cs, .int cn, .int dp, .int dq, .int dg, .ref h1, .ref h2])), (h1, .inl (a1, 8, .inl se)), (h2, .inl (a2, 8, .inl pu))] H := hP
    have hD : va_D A [(h0, .inr (0, [.int (nI (dk_try sd n9)), .int (nI (dk_q sd)), .long cs, .int cn, .int dp, .int dq, .int dg, .ref h1, .ref h2])), (h1, .inl (a1, 8, .inl se)), (h2, .inl (a2, 8, .inl pu))] := hD
    refine lv_aload_n hx hb dX0_generate_30 rfl (lv_at hl 1 rfl) ?_
    refine lv_lload_n hx hb dX0_generate_31 rfl (lv_at hl 2 rfl) ?_
    refine va_put (D := (dC, dI)) (ci := 0) (v := .long sd) (ty := .long) (C := RX0) (T := TX0) (N := 9) hx hb hts (by decide +kernel) tyX0 tyX0_ok nmX0 hown hK hP hD hS 0 rfl rfl 2 (by decide) (hts (.fieldLink RX0 34 "DomainKeys" "candidateSeed" "J") (by decide +kernel)) (fun _ h9 => h9) rfl (by decide +kernel) rfl rfl (Nat.le_of_ble_eq_true rfl) dX0_generate_32 (fun H locs hP hD hS => ?_)
    have hP : va_P (dC, dI) vwCl [(h0, .inr (0, [.int (nI (dk_try sd n9)), .int (nI (dk_q sd)), .long sd, .int cn, .int dp, .int dq, .int dg, .ref h1, .ref h2])), (h1, .inl (a1, 8, .inl se)), (h2, .inl (a2, 8, .inl pu))] H := hP
    have hD : va_D A [(h0, .inr (0, [.int (nI (dk_try sd n9)), .int (nI (dk_q sd)), .long sd, .int cn, .int dp, .int dq, .int dg, .ref h1, .ref h2])), (h1, .inl (a1, 8, .inl se)), (h2, .inl (a2, 8, .inl pu))] := hD
    refine lv_aload_n hx hb dX0_generate_35 rfl (lv_at hl 1 rfl) ?_
    refine lv_iload_n hx hb dX0_generate_36 rfl (lv_at hl 0 rfl) ?_
    refine va_put (D := (dC, dI)) (ci := 0) (v := .int (nI n9)) (ty := .int) (C := RX0) (T := TX0) (N := 9) hx hb hts (by decide +kernel) tyX0 tyX0_ok nmX0 hown hK hP hD hS 0 rfl rfl 3 (by decide) (hts (.fieldLink RX0 38 "DomainKeys" "candidateCounter" "I") (by decide +kernel)) (fun _ h9 => h9) rfl (by decide +kernel) rfl rfl (Nat.le_of_ble_eq_true rfl) dX0_generate_37 (fun H locs hP hD hS => ?_)
    have hP : va_P (dC, dI) vwCl [(h0, .inr (0, [.int (nI (dk_try sd n9)), .int (nI (dk_q sd)), .long sd, .int (nI n9), .int dp, .int dq, .int dg, .ref h1, .ref h2])), (h1, .inl (a1, 8, .inl se)), (h2, .inl (a2, 8, .inl pu))] H := hP
    have hD : va_D A [(h0, .inr (0, [.int (nI (dk_try sd n9)), .int (nI (dk_q sd)), .long sd, .int (nI n9), .int dp, .int dq, .int dg, .ref h1, .ref h2])), (h1, .inl (a1, 8, .inl se)), (h2, .inl (a2, 8, .inl pu))] := hD
    refine lv_iload_n hx hb dX0_generate_40 rfl (lv_at hl 0 rfl) ?_
    exact W.iret (v := (nI n9)) hx hb hr (fun t ht hW => ⟨⟨nI n9, (nI (dk_try sd n9), nI (dk_q sd), sd, nI n9, dp, dq, dg, se, pu), rfl, ⟨hr_1, Or.inr ⟨n9, hn9, hok, hpq, rfl, rfl⟩⟩, by rw [ht]; exact hP, va_K.moved hW.alike hK, hD⟩, hS.F ht⟩) hS.2.2 dX0_generate_41

set_option maxHeartbeats 4000000 in
set_option maxRecDepth 100000 in
theorem dk_c_generator (l : Launch) (hl9 : l.stackTraces = false) (dC : Nat → ClassId) (dI : Nat → Nat → Nat) (h0 h1 h2 : Nat) (a1 a2 : ClassId) (cp cq : Int32) (cs : Int64) (cn dp dq dg : Int32) (se pu : Nat → Int32) (x : Int32) (hI : dk_IC cp cq cs cn) (sz : Nat) : vx_Met l yX0_generator wsX0_generator ({ frames := 6, cells := 1, slots := 6, locals := 82 }) (va_Pc [.ref h0, .int x] (fun U => U.heap.size = sz ∧ va_P (dC, dI) vwCl [(h0, .inr (0, [.int cp, .int cq, .long cs, .int cn, .int dp, .int dq, .int dg, .ref h1, .ref h2])), (h1, .inl (a1, 8, .inl se)), (h2, .inl (a2, 8, .inl pu))] U.heap ∧ va_K (dC, dI) vwCl [(a1, .int), (a2, .int)] U ∧ va_D (fun _ => True) [(h0, .inr (0, [.int cp, .int cq, .long cs, .int cn, .int dp, .int dq, .int dg, .ref h1, .ref h2])), (h1, .inl (a1, 8, .inl se)), (h2, .inl (a2, 8, .inl pu))] ∧ dk_E (va_A [(h0, .inr (0, [.int cp, .int cq, .long cs, .int cn, .int dp, .int dq, .int dg, .ref h1, .ref h2])), (h1, .inl (a1, 8, .inl se)), (h2, .inl (a2, 8, .inl pu))] sz) U U.heap)) (va_Qi (fun (r9 : Int32) (u9 : dk_S) => u9 = (cp, cq, cs, cn, dp, dq, dg, se, pu) ∧ ¬ cp = 0 ∧ ∃ ix : Nat, ix < 256 ∧ x = nI ix ∧ dk_Gn cs ix (dk_n cp) (dk_n cq) r9) (dk_B dC dI (va_A [(h0, .inr (0, [.int cp, .int cq, .long cs, .int cn, .int dp, .int dq, .int dg, .ref h1, .ref h2])), (h1, .inl (a1, 8, .inl se)), (h2, .inl (a2, 8, .inl pu))] sz) h0 h1 h2 a1 a2) (va_A [(h0, .inr (0, [.int cp, .int cq, .long cs, .int cn, .int dp, .int dq, .int dg, .ref h1, .ref h2])), (h1, .inl (a1, 8, .inl se)), (h2, .inl (a2, 8, .inl pu))] sz)) (vx_X (fun _ : dk_S => True) (fun E9 u9 t9 => (u9 = (cp, cq, cs, cn, dp, dq, dg, se, pu) ∧ ((E9 = "java/lang/IllegalStateException" ∧ cp = 0) ∨ (E9 = "java/lang/IllegalArgumentException" ∧ ¬ cp = 0 ∧ ¬ (0 ≤ x ∧ x < 256)))) ∧ dk_B dC dI (va_A [(h0, .inr (0, [.int cp, .int cq, .long cs, .int cn, .int dp, .int dq, .int dg, .ref h1, .ref h2])), (h1, .inl (a1, 8, .inl se)), (h2, .inl (a2, 8, .inl pu))] sz) h0 h1 h2 a1 a2 u9 t9) (va_A [(h0, .inr (0, [.int cp, .int cq, .long cs, .int cn, .int dp, .int dq, .int dg, .ref h1, .ref h2])), (h1, .inl (a1, 8, .inl se)), (h2, .inl (a2, 8, .inl pu))] sz)) 1 6 (va_A [(h0, .inr (0, [.int cp, .int cq, .long cs, .int cn, .int dp, .int dq, .int dg, .ref h1, .ref h2])), (h1, .inl (a1, 8, .inl se)), (h2, .inl (a2, 8, .inl pu))] sz) := by
  refine vx_ofW (cc := cX0_generator) (maxL := 4) (ret := (some .int)) (by decide) rfl ?_
  intro p e s m args below meth c s₁ B hml hEx hv
  obtain ⟨rfl, hsz, hP, hK, hD0, hE⟩ := hv
  have hx := B.exec
  have hb := B.bytes
  have hr := B.returns
  have hts := atoms_spec (ws := wsX0_generator) B.pre
  have hown : s.vm.findClass RX0 = some m.cls := findClass_of_methodNamed B.named
  have hlocks := B.notSynchronized
  subst hsz
  have hD := hD0.self (sz := s.heap.size)
  generalize hAe : va_A [(h0, .inr (0, [.int cp, .int cq, .long cs, .int cn, .int dp, .int dq, .int dg, .ref h1, .ref h2])), (h1, .inl (a1, 8, .inl se)), (h2, .inl (a2, 8, .inl pu))] s.heap.size = A at hD hE ⊢
  have hA : ∀ q : Nat, s.heap.size ≤ q → A q := fun q h => by rw [← hAe]; exact Or.inr h
  have hS : va_S A s.heap s.heap [] := va_S.rf
  have hl := lv_entry ([.ref h0, .int x]) (n := 4) (Nat.le_of_ble_eq_true rfl)
  rw [lg_entry_eq]
  generalize (lg_sl ([.ref h0, .int x]) ++ List.replicate (4 - (lg_sl ([.ref h0, .int x])).length) Slot.unset).toArray = ls at hl ⊢
  have hl : lv_has ls 4 [(0, .ref h0), (1, .int x)] := hl
  refine lv_aload_n hx hb dX0_generator_0 rfl (lv_at hl 0 rfl) ?_
  refine va_get (D := (dC, dI)) (ci := 0) (v := .int cp) (C := RX0) (T := TX0) (N := 9) hx hb hts (by decide +kernel) hown hK hP 0 rfl rfl 0 (by decide) (hts (.fieldLink RX0 31 "DomainKeys" "candidateP" "I") (by decide +kernel)) (fun _ h9 => h9) rfl dX0_generator_1 ?_
  refine lv_if_ne (tgt := 17) hx hb dX0_generator_4 (by decide) (fun c_4 => ?_) (fun c_4 => ?_)
  · obtain ⟨n9, hn9, hok, hpq, rfl, rfl, rfl⟩ := hI.resolve_left (fun q => c_4 q.1)
    have htr := dk_try_in cs n9
    have hqi := dk_q_in cs
    refine lv_iload_n hx hb dX0_generator_17 rfl (lv_at hl 1 rfl) ?_
    refine lv_if_lt (tgt := 28) hx hb dX0_generator_18 (by decide) (fun c_18 => ?_) (fun c_18 => ?_)
    · have hno : ¬ (0 ≤ x ∧ x < 256) := fun q => dk_not_lt.mpr q.1 c_18
      obtain ⟨sa_28, hs_28⟩ := hE.2.2.2.2.1 (50, "index is not 0 .. 255") (by decide +kernel)
      refine vx_throwS (own := RX0) (cls := "java/lang/IllegalArgumentException") (text := "index is not 0 .. 255") (names := ["java/lang/RuntimeException", "java/lang/Exception"]) (ik := 48) (is := 50) (ic := 52) (rest := []) hx hb hl9 hown (by decide +kernel) (by decide +kernel) (hts (.classLink RX0 48 "java/lang/IllegalArgumentException") (by decide +kernel)) (hts (.initialized "java/lang/IllegalArgumentException") (by decide +kernel)) hs_28 (vx_hat (L := vx_atS RX0 52 "java/lang/IllegalArgumentException" ["java/lang/RuntimeException", "java/lang/Exception"]) (B := [.castable "java/lang/IllegalArgumentException" "java/lang/IllegalArgumentException", .declares (Bundle.initS "java/lang/RuntimeException"), .declares (Bundle.initS "java/lang/Exception"), .declares (Bundle.initS "java/lang/Throwable")]) (fun w hw => hts w ((by decide +kernel : ∀ w ∈ (vx_atS RX0 52 "java/lang/IllegalArgumentException" ["java/lang/RuntimeException", "java/lang/Exception"]).filter goodWord, w ∈ wsX0_generator) w hw)) (by decide +kernel) (vx_c (va_Nw.use rfl (hE.2.2.1 "java/lang/IllegalArgumentException" (by decide +kernel))) (vx_c (va_Nw.use rfl (hE.2.2.2.1 "java/lang/RuntimeException" (by decide +kernel))) (vx_c (va_Nw.use rfl (hE.2.2.2.1 "java/lang/Exception" (by decide +kernel))) (vx_c (va_Nw.use rfl (hE.2.2.2.1 "java/lang/Throwable" (by decide +kernel))) (vx_n)))))) (by decide +kernel) hE.1 hE.2.1 hS (hl.1.trans hml.symm) dX0_generator_28 dX0_generator_31 dX0_generator_32 dX0_generator_34 dX0_generator_37 (fun x hx => (hEx x hx).elim) (Nat.le_of_ble_eq_true rfl) (Nat.le_of_ble_eq_true rfl) (Nat.le_of_ble_eq_true rfl) (Nat.le_of_ble_eq_true rfl) hlocks (fun t ha hz hk => ?_) hS.2.2 (Nat.le_of_ble_eq_true rfl) (Nat.le_of_ble_eq_true rfl)
      exact ⟨(nI (dk_try cs n9), nI (dk_q cs), cs, nI n9, dp, dq, dg, se, pu), trivial, ⟨⟨rfl, Or.inr ⟨rfl, c_4, hno⟩⟩, hP.kept (fun k q hq => hk q.1 (hP k q hq).lt), va_K.moved ha hK, hD⟩, dk_F hS hz hk⟩
    · refine lv_iload_n hx hb dX0_generator_21 rfl (lv_at hl 1 rfl) ?_
      refine lv_sipush (v := 256) hx hb dX0_generator_22 (by decide) ?_
      refine lv_icmp_lt (tgt := 38) hx hb dX0_generator_25 (by decide) (fun c_25 => ?_) (fun c_25 => ?_)
      · obtain ⟨ix, hix, rfl⟩ := dk_ge0 (dk_not_lt.mp c_18)
        have hi2 : ix < 256 := (nI_ltI (by omega) (by omega)).mp c_25
        refine lv_aload_n hx hb dX0_generator_38 rfl (lv_at hl 0 rfl) ?_
        refine va_get (D := (dC, dI)) (ci := 0) (v := .long cs) (C := RX0) (T := TX0) (N := 9) hx hb hts (by decide +kernel) hown hK hP 0 rfl rfl 2 (by decide) (hts (.fieldLink RX0 34 "DomainKeys" "candidateSeed" "J") (by decide +kernel)) (fun _ h9 => h9) rfl dX0_generator_39 ?_
        refine lv_bipush (v := 100) hx hb dX0_generator_42 (by decide) ?_
        refine lv_iload_n hx hb dX0_generator_44 rfl (lv_at hl 1 rfl) ?_
        refine lv_iadd hx hb dX0_generator_45 ?_
        refine lv_topi (fun v_45 ev_45 => ?_)
        have ev_45 : v_45 = nI (100 + ix) := ev_45.trans (nI_add 100 ix)
        subst ev_45
        refine lv_i2l hx hb dX0_generator_46 rfl ?_
        refine lv_topl (fun v_46 ev_46 => ?_)
        have ev_46 : v_46 = lN (100 + ix) := ev_46.trans (nI_l (by omega))
        subst ev_46
        refine vp_callSl (W.runS (As := [.long cs, .long (lN (100 + ix))]) (rest := []) ⟨hx, hb, hml, hown, hts⟩ (dk_c_mix l cs (lN (100 + ix))) (va_cwS 2 hts gX0_generator_X0_mix rfl rfl rfl (by decide +kernel) ⟨Nat.le_of_ble_eq_true rfl, Nat.le_of_ble_eq_true rfl⟩) ⟨fun _ _ _ _ q9 => q9, fun U hU hW => ⟨rfl, trivial⟩⟩ rfl rfl hl.1 rfl (lv_room (Nat.le_of_ble_eq_true rfl)) dX0_generator_47 ⟨Nat.le_of_ble_eq_true rfl, Nat.le_of_ble_eq_true rfl⟩) (fun r_47 hr_47 => ?_)
        subst hr_47
        refine lv_lstore_n (lv' := [(2, .long (dk_H cs (lN (100 + ix)))), (0, .ref h0), (1, .int (nI ix))]) hx hb dX0_generator_50 rfl hl (by decide) rfl (fun ls hl => ?_)
        refine lv_lload_n hx hb dX0_generator_51 rfl (lv_at hl 0 rfl) ?_
        refine lv_aload_n hx hb dX0_generator_52 rfl (lv_at hl 1 rfl) ?_
        refine va_get (D := (dC, dI)) (ci := 0) (v := .int (nI (dk_try cs n9))) (C := RX0) (T := TX0) (N := 9) hx hb hts (by decide +kernel) hown hK hP 0 rfl rfl 0 (by decide) (hts (.fieldLink RX0 31 "DomainKeys" "candidateP" "I") (by decide +kernel)) (fun _ h9 => h9) rfl dX0_generator_53 ?_
        refine lv_aload_n hx hb dX0_generator_56 rfl (lv_at hl 1 rfl) ?_
        refine va_get (D := (dC, dI)) (ci := 0) (v := .int (nI (dk_try cs n9))) (C := RX0) (T := TX0) (N := 9) hx hb hts (by decide +kernel) hown hK hP 0 rfl rfl 0 (by decide) (hts (.fieldLink RX0 31 "DomainKeys" "candidateP" "I") (by decide +kernel)) (fun _ h9 => h9) rfl dX0_generator_57 ?_
        refine lv_iconst (v := 1) hx hb dX0_generator_60 (by decide) ?_
        refine lv_isub hx hb dX0_generator_61 ?_
        refine lv_topi (fun v_61 ev_61 => ?_)
        have ev_61 : v_61 = nI (dk_try cs n9 - 1) := ev_61.trans (pk_sub (b := 1) (by have := hok.1; omega))
        subst ev_61
        refine lv_aload_n hx hb dX0_generator_62 rfl (lv_at hl 1 rfl) ?_
        refine va_get (D := (dC, dI)) (ci := 0) (v := .int (nI (dk_q cs))) (C := RX0) (T := TX0) (N := 9) hx hb hts (by decide +kernel) hown hK hP 0 rfl rfl 1 (by decide) (hts (.fieldLink RX0 23 "DomainKeys" "candidateQ" "I") (by decide +kernel)) (fun _ h9 => h9) rfl dX0_generator_63 ?_
        refine lv_idiv hx hb dX0_generator_66 (nI_ne0 (by omega) (by omega)) ?_
        refine lv_topi (fun v_66 ev_66 => ?_)
        have ev_66 : v_66 = nI ((dk_try cs n9 - 1) / dk_q cs) := ev_66.trans (pk_div (by have := htr.2; omega) (by omega) (by omega))
        subst ev_66
        refine vp_callSi (W.runS (As := [.long (dk_H cs (lN (100 + ix))), .int (nI (dk_try cs n9)), .int (nI ((dk_try cs n9 - 1) / dk_q cs))]) (rest := []) ⟨hx, hb, hml, hown, hts⟩ (dk_c_generatorFrom l cs (dk_try cs n9) (dk_q cs) ix (by have := hok.1; omega) htr.2 (by omega) (by omega) hi2) (va_cwS 3 hts gX0_generator_X0_generatorFrom rfl rfl rfl (by decide +kernel) ⟨Nat.le_of_ble_eq_true rfl, Nat.le_of_ble_eq_true rfl⟩) ⟨fun _ _ _ _ q9 => q9, fun U hU hW => ⟨rfl, trivial⟩⟩ rfl rfl hl.1 rfl (lv_room (Nat.le_of_ble_eq_true rfl)) dX0_generator_67 ⟨Nat.le_of_ble_eq_true rfl, Nat.le_of_ble_eq_true rfl⟩) (fun r_67 hr_67 => ?_)
        refine W.widen (k := 1) (n := 6) (Nat.le_of_ble_eq_true rfl) (Nat.le_of_ble_eq_true rfl) ?_
        exact vx_ret (W.iret (v := r_67) hx hb hr (fun t ht hW => ⟨⟨r_67, (nI (dk_try cs n9), nI (dk_q cs), cs, nI n9, dp, dq, dg, se, pu), rfl, ⟨rfl, c_4, ix, hi2, rfl, by rw [dk_n_nI htr.2, dk_n_nI (by omega)]; exact hr_67⟩, by rw [ht]; exact hP, va_K.moved hW.alike hK, hD⟩, hS.F ht⟩) hS.2.2 dX0_generator_70)
      · have hno : ¬ (0 ≤ x ∧ x < 256) := fun q => c_25 q.2
        obtain ⟨sa_28, hs_28⟩ := hE.2.2.2.2.1 (50, "index is not 0 .. 255") (by decide +kernel)
        refine vx_throwS (own := RX0) (cls := "java/lang/IllegalArgumentException") (text := "index is not 0 .. 255") (names := ["java/lang/RuntimeException", "java/lang/Exception"]) (ik := 48) (is := 50) (ic := 52) (rest := []) hx hb hl9 hown (by decide +kernel) (by decide +kernel) (hts (.classLink RX0 48 "java/lang/IllegalArgumentException") (by decide +kernel)) (hts (.initialized "java/lang/IllegalArgumentException") (by decide +kernel)) hs_28 (vx_hat (L := vx_atS RX0 52 "java/lang/IllegalArgumentException" ["java/lang/RuntimeException", "java/lang/Exception"]) (B := [.castable "java/lang/IllegalArgumentException" "java/lang/IllegalArgumentException", .declares (Bundle.initS "java/lang/RuntimeException"), .declares (Bundle.initS "java/lang/Exception"), .declares (Bundle.initS "java/lang/Throwable")]) (fun w hw => hts w ((by decide +kernel : ∀ w ∈ (vx_atS RX0 52 "java/lang/IllegalArgumentException" ["java/lang/RuntimeException", "java/lang/Exception"]).filter goodWord, w ∈ wsX0_generator) w hw)) (by decide +kernel) (vx_c (va_Nw.use rfl (hE.2.2.1 "java/lang/IllegalArgumentException" (by decide +kernel))) (vx_c (va_Nw.use rfl (hE.2.2.2.1 "java/lang/RuntimeException" (by decide +kernel))) (vx_c (va_Nw.use rfl (hE.2.2.2.1 "java/lang/Exception" (by decide +kernel))) (vx_c (va_Nw.use rfl (hE.2.2.2.1 "java/lang/Throwable" (by decide +kernel))) (vx_n)))))) (by decide +kernel) hE.1 hE.2.1 hS (hl.1.trans hml.symm) dX0_generator_28 dX0_generator_31 dX0_generator_32 dX0_generator_34 dX0_generator_37 (fun x hx => (hEx x hx).elim) (Nat.le_of_ble_eq_true rfl) (Nat.le_of_ble_eq_true rfl) (Nat.le_of_ble_eq_true rfl) (Nat.le_of_ble_eq_true rfl) hlocks (fun t ha hz hk => ?_) hS.2.2 (Nat.le_of_ble_eq_true rfl) (Nat.le_of_ble_eq_true rfl)
        exact ⟨(nI (dk_try cs n9), nI (dk_q cs), cs, nI n9, dp, dq, dg, se, pu), trivial, ⟨⟨rfl, Or.inr ⟨rfl, c_4, hno⟩⟩, hP.kept (fun k q hq => hk q.1 (hP k q hq).lt), va_K.moved ha hK, hD⟩, dk_F hS hz hk⟩
  · obtain ⟨sa_7, hs_7⟩ := hE.2.2.2.2.1 (43, "no candidate") (by decide +kernel)
    refine vx_throwS (own := RX0) (cls := "java/lang/IllegalStateException") (text := "no candidate") (names := ["java/lang/RuntimeException", "java/lang/Exception"]) (ik := 41) (is := 43) (ic := 45) (rest := []) hx hb hl9 hown (by decide +kernel) (by decide +kernel) (hts (.classLink RX0 41 "java/lang/IllegalStateException") (by decide +kernel)) (hts (.initialized "java/lang/IllegalStateException") (by decide +kernel)) hs_7 (vx_hat (L := vx_atS RX0 45 "java/lang/IllegalStateException" ["java/lang/RuntimeException", "java/lang/Exception"]) (B := [.castable "java/lang/IllegalStateException" "java/lang/IllegalStateException", .declares (Bundle.initS "java/lang/RuntimeException"), .declares (Bundle.initS "java/lang/Exception"), .declares (Bundle.initS "java/lang/Throwable")]) (fun w hw => hts w ((by decide +kernel : ∀ w ∈ (vx_atS RX0 45 "java/lang/IllegalStateException" ["java/lang/RuntimeException", "java/lang/Exception"]).filter goodWord, w ∈ wsX0_generator) w hw)) (by decide +kernel) (vx_c (va_Nw.use rfl (hE.2.2.1 "java/lang/IllegalStateException" (by decide +kernel))) (vx_c (va_Nw.use rfl (hE.2.2.2.1 "java/lang/RuntimeException" (by decide +kernel))) (vx_c (va_Nw.use rfl (hE.2.2.2.1 "java/lang/Exception" (by decide +kernel))) (vx_c (va_Nw.use rfl (hE.2.2.2.1 "java/lang/Throwable" (by decide +kernel))) (vx_n)))))) (by decide +kernel) hE.1 hE.2.1 hS (hl.1.trans hml.symm) dX0_generator_7 dX0_generator_10 dX0_generator_11 dX0_generator_13 dX0_generator_16 (fun x hx => (hEx x hx).elim) (Nat.le_of_ble_eq_true rfl) (Nat.le_of_ble_eq_true rfl) (Nat.le_of_ble_eq_true rfl) (Nat.le_of_ble_eq_true rfl) hlocks (fun t ha hz hk => ?_) hS.2.2 (Nat.le_of_ble_eq_true rfl) (Nat.le_of_ble_eq_true rfl)
    exact ⟨(cp, cq, cs, cn, dp, dq, dg, se, pu), trivial, ⟨⟨rfl, Or.inl ⟨rfl, c_4⟩⟩, hP.kept (fun k q hq => hk q.1 (hP k q hq).lt), va_K.moved ha hK, hD⟩, dk_F hS hz hk⟩

set_option maxHeartbeats 4000000 in
set_option maxRecDepth 100000 in
theorem dk_c_publicNumber (l : Launch) (hl9 : l.stackTraces = false) (dC : Nat → ClassId) (dI : Nat → Nat → Nat) (h0 h1 h2 : Nat) (a1 a2 : ClassId) (cp cq : Int32) (cs : Int64) (cn dp dq dg : Int32) (se pu : Nat → Int32) (x : Int32) (hIK : dk_IK dp dq dg se pu) (sz : Nat) : vx_Met l yX0_publicNumber wsX0_publicNumber ({ frames := 7, cells := 1, slots := 6, locals := 103 }) (va_Pc [.ref h0, .int x] (fun U => U.heap.size = sz ∧ va_P (dC, dI) vwCl [(h0, .inr (0, [.int cp, .int cq, .long cs, .int cn, .int dp, .int dq, .int dg, .ref h1, .ref h2])), (h1, .inl (a1, 8, .inl se)), (h2, .inl (a2, 8, .inl pu))] U.heap ∧ va_K (dC, dI) vwCl [(a1, .int), (a2, .int)] U ∧ va_D (fun _ => True) [(h0, .inr (0, [.int cp, .int cq, .long cs, .int cn, .int dp, .int dq, .int dg, .ref h1, .ref h2])), (h1, .inl (a1, 8, .inl se)), (h2, .inl (a2, 8, .inl pu))] ∧ dk_E (va_A [(h0, .inr (0, [.int cp, .int cq, .long cs, .int cn, .int dp, .int dq, .int dg, .ref h1, .ref h2])), (h1, .inl (a1, 8, .inl se)), (h2, .inl (a2, 8, .inl pu))] sz) U U.heap)) (va_Qi (fun (r9 : Int32) (u9 : dk_S) => u9 = (cp, cq, cs, cn, dp, dq, dg, se, pu) ∧ dk_fpub dp dg se x = (0, r9)) (dk_B dC dI (va_A [(h0, .inr (0, [.int cp, .int cq, .long cs, .int cn, .int dp, .int dq, .int dg, .ref h1, .ref h2])), (h1, .inl (a1, 8, .inl se)), (h2, .inl (a2, 8, .inl pu))] sz) h0 h1 h2 a1 a2) (va_A [(h0, .inr (0, [.int cp, .int cq, .long cs, .int cn, .int dp, .int dq, .int dg, .ref h1, .ref h2])), (h1, .inl (a1, 8, .inl se)), (h2, .inl (a2, 8, .inl pu))] sz)) (vx_X (fun _ : dk_S => True) (fun E9 u9 t9 => (u9 = (cp, cq, cs, cn, dp, dq, dg, se, pu) ∧ E9 = "java/util/NoSuchElementException" ∧ dk_fpub dp dg se x = (1, 0)) ∧ dk_B dC dI (va_A [(h0, .inr (0, [.int cp, .int cq, .long cs, .int cn, .int dp, .int dq, .int dg, .ref h1, .ref h2])), (h1, .inl (a1, 8, .inl se)), (h2, .inl (a2, 8, .inl pu))] sz) h0 h1 h2 a1 a2 u9 t9) (va_A [(h0, .inr (0, [.int cp, .int cq, .long cs, .int cn, .int dp, .int dq, .int dg, .ref h1, .ref h2])), (h1, .inl (a1, 8, .inl se)), (h2, .inl (a2, 8, .inl pu))] sz)) 1 6 (va_A [(h0, .inr (0, [.int cp, .int cq, .long cs, .int cn, .int dp, .int dq, .int dg, .ref h1, .ref h2])), (h1, .inl (a1, 8, .inl se)), (h2, .inl (a2, 8, .inl pu))] sz) := by
  refine vx_ofW (cc := cX0_publicNumber) (maxL := 2) (ret := (some .int)) (by decide) rfl ?_
  intro p e s m args below meth c s₁ B hml hEx hv
  obtain ⟨rfl, hsz, hP, hK, hD0, hE⟩ := hv
  have hx := B.exec
  have hb := B.bytes
  have hr := B.returns
  have hts := atoms_spec (ws := wsX0_publicNumber) B.pre
  have hown : s.vm.findClass RX0 = some m.cls := findClass_of_methodNamed B.named
  have hlocks := B.notSynchronized
  subst hsz
  have hD := hD0.self (sz := s.heap.size)
  generalize hAe : va_A [(h0, .inr (0, [.int cp, .int cq, .long cs, .int cn, .int dp, .int dq, .int dg, .ref h1, .ref h2])), (h1, .inl (a1, 8, .inl se)), (h2, .inl (a2, 8, .inl pu))] s.heap.size = A at hD hE ⊢
  have hA : ∀ q : Nat, s.heap.size ≤ q → A q := fun q h => by rw [← hAe]; exact Or.inr h
  have hS : va_S A s.heap s.heap [] := va_S.rf
  have hl := lv_entry ([.ref h0, .int x]) (n := 2) (Nat.le_of_ble_eq_true rfl)
  rw [lg_entry_eq]
  generalize (lg_sl ([.ref h0, .int x]) ++ List.replicate (2 - (lg_sl ([.ref h0, .int x])).length) Slot.unset).toArray = ls at hl ⊢
  have hl : lv_has ls 2 [(0, .ref h0), (1, .int x)] := hl
  refine lv_aload_n hx hb dX0_publicNumber_0 rfl (lv_at hl 0 rfl) ?_
  refine lv_iload_n hx hb dX0_publicNumber_1 rfl (lv_at hl 1 rfl) ?_
  have hPc := hP.sub (ws' := [(h0, .inr (0, [.int cp, .int cq, .long cs, .int cn, .int dp, .int dq, .int dg, .ref h1, .ref h2])), (h1, .inl (a1, 8, .inl se)), (h2, .inl (a2, 8, .inl pu))]) [0, 1, 2] rfl
  have hDc := hD.sub (ws' := [(h0, .inr (0, [.int cp, .int cq, .long cs, .int cn, .int dp, .int dq, .int dg, .ref h1, .ref h2])), (h1, .inl (a1, 8, .inl se)), (h2, .inl (a2, 8, .inl pu))]) [0, 1, 2] (by decide) rfl
  have hKc := hK.sub (tys' := [(a1, .int), (a2, .int)]) [0, 1] rfl
  have hFc := va_free (wc := [(h0, .inr (0, [.int cp, .int cq, .long cs, .int cn, .int dp, .int dq, .int dg, .ref h1, .ref h2])), (h1, .inl (a1, 8, .inl se)), (h2, .inl (a2, 8, .inl pu))]) hD hS hA [0, 1, 2] rfl
  refine vx_callv (vx_runV (As := [.int x]) (rest := []) ⟨hx, hb, hml, hown, hts⟩ (dk_c_requireKey l hl9 dC dI h0 h1 h2 a1 a2 cp cq cs cn dp dq dg se pu x _) (cwV 1 hts gX0_publicNumber_X0_requireKey rfl rfl rfl (by decide +kernel) ⟨Nat.le_of_ble_eq_true rfl, Nat.le_of_ble_eq_true rfl⟩) ⟨fun a U g mk q => by obtain ⟨q0, q1, qP, qK, qD, qE⟩ := q; exact ⟨q0, q1, qP, va_K.moved (u := U) (U := U.calling g mk a) (Vm.Alike.refl U.vm) qK, qD, qE.blind⟩, va_recv hKc hPc (ci := 0) (q0 := 0) rfl rfl, fun U hU hW => ⟨rfl, by rw [hU], by rw [hU]; exact hPc, va_K.moved hW.alike hKc, hDc.weaken (fun _ _ _ _ => trivial), hE.go hS hFc hU hW⟩⟩ rfl rfl hl.1 rfl (lv_room (Nat.le_of_ble_eq_true rfl)) dX0_publicNumber_2 ⟨Nat.le_of_ble_eq_true rfl, Nat.le_of_ble_eq_true rfl⟩) hS (fun q _ h => hFc q h) hFc (fun q _ h => hFc q h) (fun E9 ce q9 u t H1 locs ht hvm hw hB hz1 hk1 hS hce hcv hcl => ?_) (fun u t H1 locs ht hvm hw hB hz1 hk1 hS => ?_)
  · obtain ⟨hEc, hB⟩ := hB
    obtain ⟨rfl, hE9, hnk⟩ := hEc
    obtain ⟨hP1, hK1, hD1⟩ := hB
    rw [ht] at hP1
    have hK1 := va_K.moved hvm.symm hK1
    obtain ⟨hP, hD⟩ := va_join (wr := []) (w1 := [(h0, .inr (0, [.int cp, .int cq, .long cs, .int cn, .int dp, .int dq, .int dg, .ref h1, .ref h2])), (h1, .inl (a1, 8, .inl se)), (h2, .inl (a2, 8, .inl pu))]) hP hD [0, 1, 2] [] rfl rfl (by decide) (by decide) hk1 hFc hP1 hD1
    have hK := (hK.sub (tys' := []) [] rfl).app hK1
    generalize H1 = H at hP hS hce ⊢
    have hP : va_P (dC, dI) vwCl [(h0, .inr (0, [.int cp, .int cq, .long cs, .int cn, .int dp, .int dq, .int dg, .ref h1, .ref h2])), (h1, .inl (a1, 8, .inl se)), (h2, .inl (a2, 8, .inl pu))] H := hP
    have hD : va_D A [(h0, .inr (0, [.int cp, .int cq, .long cs, .int cn, .int dp, .int dq, .int dg, .ref h1, .ref h2])), (h1, .inl (a1, 8, .inl se)), (h2, .inl (a2, 8, .inl pu))] := hD
    have hK : va_K (dC, dI) vwCl [(a1, .int), (a2, .int)] s := hK
    exact vx_out (E := E9) (fun x hx => (hEx x hx).elim) hlocks hce hcv hcl (fun t ht ha => ⟨(cp, cq, cs, cn, dp, dq, dg, se, pu), trivial, ⟨⟨rfl, hE9, by rw [dk_fpub, if_pos hnk]⟩, by rw [ht]; exact hP, va_K.moved ha hK, hD⟩, hS.F ht⟩) hS.2.2 (Nat.le_of_ble_eq_true rfl) (Nat.le_of_ble_eq_true rfl)
  obtain ⟨rfl, hhk⟩ := hw
  obtain ⟨j, hj, rfl⟩ := dk_sl_of.mp hhk.1
  have hse : ¬ se j = 0 := (dk_hk_nI hj).mp hhk
  obtain ⟨hP1, hK1, hD1⟩ := hB
  rw [ht] at hP1
  have hK1 := va_K.moved hvm.symm hK1
  obtain ⟨hP, hD⟩ := va_join (wr := []) (w1 := [(h0, .inr (0, [.int cp, .int cq, .long cs, .int cn, .int dp, .int dq, .int dg, .ref h1, .ref h2])), (h1, .inl (a1, 8, .inl se)), (h2, .inl (a2, 8, .inl pu))]) hP hD [0, 1, 2] [] rfl rfl (by decide) (by decide) hk1 hFc hP1 hD1
  have hK := (hK.sub (tys' := []) [] rfl).app hK1
  generalize H1 = H at hP hS ⊢
  have hP : va_P (dC, dI) vwCl [(h0, .inr (0, [.int cp, .int cq, .long cs, .int cn, .int dp, .int dq, .int dg, .ref h1, .ref h2])), (h1, .inl (a1, 8, .inl se)), (h2, .inl (a2, 8, .inl pu))] H := hP
  have hD : va_D A [(h0, .inr (0, [.int cp, .int cq, .long cs, .int cn, .int dp, .int dq, .int dg, .ref h1, .ref h2])), (h1, .inl (a1, 8, .inl se)), (h2, .inl (a2, 8, .inl pu))] := hD
  have hK : va_K (dC, dI) vwCl [(a1, .int), (a2, .int)] s := hK
  refine lv_aload_n hx hb dX0_publicNumber_5 rfl (lv_at hl 0 rfl) ?_
  refine va_get (D := (dC, dI)) (ci := 0) (v := .ref h2) (C := RX0) (T := TX0) (N := 9) hx hb hts (by decide +kernel) hown hK hP 0 rfl rfl 8 (by decide) (hts (.fieldLink RX0 13 "DomainKeys" "publicNumbers" "[I") (by decide +kernel)) (fun _ h9 => h9) rfl dX0_publicNumber_6 ?_
  refine lv_iload_n hx hb dX0_publicNumber_9 rfl (lv_at hl 1 rfl) ?_
  refine va_iald hx hb hK hP 2 1 rfl rfl (vp_in_nI hj (by decide)) dX0_publicNumber_10 ?_
  refine lv_topi (fun v_10 ev_10 => ?_)
  have ev_10 : v_10 = pu j := ev_10.trans (congrArg pu (nI_clamp (Nat.lt_trans hj (by decide))))
  subst ev_10
  exact vx_ret (W.iret (v := (pu j)) hx hb hr (fun t ht hW => ⟨⟨pu j, (cp, cq, cs, cn, dp, dq, dg, se, pu), rfl, ⟨rfl, by rw [dk_fpub, if_neg (fun q => q hhk), dk_n_nI (by omega), ((hIK j hj).resolve_left hse).2.2]⟩, by rw [ht]; exact hP, va_K.moved hW.alike hK, hD⟩, hS.F ht⟩) hS.2.2 dX0_publicNumber_11)

set_option maxHeartbeats 4000000 in
set_option maxRecDepth 100000 in
theorem dk_c_forget (l : Launch) (hl9 : l.stackTraces = false) (dC : Nat → ClassId) (dI : Nat → Nat → Nat) (h0 h1 h2 : Nat) (a1 a2 : ClassId) (cp cq : Int32) (cs : Int64) (cn dp dq dg : Int32) (se pu : Nat → Int32) (x : Int32) (sz : Nat) : vx_Met l yX0_forget wsX0_forget ({ frames := 7, cells := 1, slots := 6, locals := 103 }) (va_Pc [.ref h0, .int x] (fun U => U.heap.size = sz ∧ va_P (dC, dI) vwCl [(h0, .inr (0, [.int cp, .int cq, .long cs, .int cn, .int dp, .int dq, .int dg, .ref h1, .ref h2])), (h1, .inl (a1, 8, .inl se)), (h2, .inl (a2, 8, .inl pu))] U.heap ∧ va_K (dC, dI) vwCl [(a1, .int), (a2, .int)] U ∧ va_D (fun _ => True) [(h0, .inr (0, [.int cp, .int cq, .long cs, .int cn, .int dp, .int dq, .int dg, .ref h1, .ref h2])), (h1, .inl (a1, 8, .inl se)), (h2, .inl (a2, 8, .inl pu))] ∧ dk_E (va_A [(h0, .inr (0, [.int cp, .int cq, .long cs, .int cn, .int dp, .int dq, .int dg, .ref h1, .ref h2])), (h1, .inl (a1, 8, .inl se)), (h2, .inl (a2, 8, .inl pu))] sz) U U.heap)) (va_Qv (fun u9 : dk_S => u9 = (cp, cq, cs, cn, dp, dq, dg, upd se (dk_n x) 0, upd pu (dk_n x) 0) ∧ dk_ffor se x = 0) (dk_B dC dI (va_A [(h0, .inr (0, [.int cp, .int cq, .long cs, .int cn, .int dp, .int dq, .int dg, .ref h1, .ref h2])), (h1, .inl (a1, 8, .inl se)), (h2, .inl (a2, 8, .inl pu))] sz) h0 h1 h2 a1 a2) (va_A [(h0, .inr (0, [.int cp, .int cq, .long cs, .int cn, .int dp, .int dq, .int dg, .ref h1, .ref h2])), (h1, .inl (a1, 8, .inl se)), (h2, .inl (a2, 8, .inl pu))] sz)) (vx_X (fun _ : dk_S => True) (fun E9 u9 t9 => (u9 = (cp, cq, cs, cn, dp, dq, dg, se, pu) ∧ E9 = "java/util/NoSuchElementException" ∧ dk_ffor se x = 1) ∧ dk_B dC dI (va_A [(h0, .inr (0, [.int cp, .int cq, .long cs, .int cn, .int dp, .int dq, .int dg, .ref h1, .ref h2])), (h1, .inl (a1, 8, .inl se)), (h2, .inl (a2, 8, .inl pu))] sz) h0 h1 h2 a1 a2 u9 t9) (va_A [(h0, .inr (0, [.int cp, .int cq, .long cs, .int cn, .int dp, .int dq, .int dg, .ref h1, .ref h2])), (h1, .inl (a1, 8, .inl se)), (h2, .inl (a2, 8, .inl pu))] sz)) 1 6 (va_A [(h0, .inr (0, [.int cp, .int cq, .long cs, .int cn, .int dp, .int dq, .int dg, .ref h1, .ref h2])), (h1, .inl (a1, 8, .inl se)), (h2, .inl (a2, 8, .inl pu))] sz) := by
  refine vx_ofW (cc := cX0_forget) (maxL := 2) (ret := none) (by decide) rfl ?_
  intro p e s m args below meth c s₁ B hml hEx hv
  obtain ⟨rfl, hsz, hP, hK, hD0, hE⟩ := hv
  have hx := B.exec
  have hb := B.bytes
  have hr := B.returns
  have hts := atoms_spec (ws := wsX0_forget) B.pre
  have hown : s.vm.findClass RX0 = some m.cls := findClass_of_methodNamed B.named
  have hlocks := B.notSynchronized
  subst hsz
  have hD := hD0.self (sz := s.heap.size)
  generalize hAe : va_A [(h0, .inr (0, [.int cp, .int cq, .long cs, .int cn, .int dp, .int dq, .int dg, .ref h1, .ref h2])), (h1, .inl (a1, 8, .inl se)), (h2, .inl (a2, 8, .inl pu))] s.heap.size = A at hD hE ⊢
  have hA : ∀ q : Nat, s.heap.size ≤ q → A q := fun q h => by rw [← hAe]; exact Or.inr h
  have hS : va_S A s.heap s.heap [] := va_S.rf
  have hl := lv_entry ([.ref h0, .int x]) (n := 2) (Nat.le_of_ble_eq_true rfl)
  rw [lg_entry_eq]
  generalize (lg_sl ([.ref h0, .int x]) ++ List.replicate (2 - (lg_sl ([.ref h0, .int x])).length) Slot.unset).toArray = ls at hl ⊢
  have hl : lv_has ls 2 [(0, .ref h0), (1, .int x)] := hl
  refine lv_aload_n hx hb dX0_forget_0 rfl (lv_at hl 0 rfl) ?_
  refine lv_iload_n hx hb dX0_forget_1 rfl (lv_at hl 1 rfl) ?_
  have hPc := hP.sub (ws' := [(h0, .inr (0, [.int cp, .int cq, .long cs, .int cn, .int dp, .int dq, .int dg, .ref h1, .ref h2])), (h1, .inl (a1, 8, .inl se)), (h2, .inl (a2, 8, .inl pu))]) [0, 1, 2] rfl
  have hDc := hD.sub (ws' := [(h0, .inr (0, [.int cp, .int cq, .long cs, .int cn, .int dp, .int dq, .int dg, .ref h1, .ref h2])), (h1, .inl (a1, 8, .inl se)), (h2, .inl (a2, 8, .inl pu))]) [0, 1, 2] (by decide) rfl
  have hKc := hK.sub (tys' := [(a1, .int), (a2, .int)]) [0, 1] rfl
  have hFc := va_free (wc := [(h0, .inr (0, [.int cp, .int cq, .long cs, .int cn, .int dp, .int dq, .int dg, .ref h1, .ref h2])), (h1, .inl (a1, 8, .inl se)), (h2, .inl (a2, 8, .inl pu))]) hD hS hA [0, 1, 2] rfl
  refine vx_callv (vx_runV (As := [.int x]) (rest := []) ⟨hx, hb, hml, hown, hts⟩ (dk_c_requireKey l hl9 dC dI h0 h1 h2 a1 a2 cp cq cs cn dp dq dg se pu x _) (cwV 1 hts gX0_forget_X0_requireKey rfl rfl rfl (by decide +kernel) ⟨Nat.le_of_ble_eq_true rfl, Nat.le_of_ble_eq_true rfl⟩) ⟨fun a U g mk q => by obtain ⟨q0, q1, qP, qK, qD, qE⟩ := q; exact ⟨q0, q1, qP, va_K.moved (u := U) (U := U.calling g mk a) (Vm.Alike.refl U.vm) qK, qD, qE.blind⟩, va_recv hKc hPc (ci := 0) (q0 := 0) rfl rfl, fun U hU hW => ⟨rfl, by rw [hU], by rw [hU]; exact hPc, va_K.moved hW.alike hKc, hDc.weaken (fun _ _ _ _ => trivial), hE.go hS hFc hU hW⟩⟩ rfl rfl hl.1 rfl (lv_room (Nat.le_of_ble_eq_true rfl)) dX0_forget_2 ⟨Nat.le_of_ble_eq_true rfl, Nat.le_of_ble_eq_true rfl⟩) hS (fun q _ h => hFc q h) hFc (fun q _ h => hFc q h) (fun E9 ce q9 u t H1 locs ht hvm hw hB hz1 hk1 hS hce hcv hcl => ?_) (fun u t H1 locs ht hvm hw hB hz1 hk1 hS => ?_)
  · obtain ⟨hEc, hB⟩ := hB
    obtain ⟨rfl, hE9, hnk⟩ := hEc
    obtain ⟨hP1, hK1, hD1⟩ := hB
    rw [ht] at hP1
    have hK1 := va_K.moved hvm.symm hK1
    obtain ⟨hP, hD⟩ := va_join (wr := []) (w1 := [(h0, .inr (0, [.int cp, .int cq, .long cs, .int cn, .int dp, .int dq, .int dg, .ref h1, .ref h2])), (h1, .inl (a1, 8, .inl se)), (h2, .inl (a2, 8, .inl pu))]) hP hD [0, 1, 2] [] rfl rfl (by decide) (by decide) hk1 hFc hP1 hD1
    have hK := (hK.sub (tys' := []) [] rfl).app hK1
    generalize H1 = H at hP hS hce ⊢
    have hP : va_P (dC, dI) vwCl [(h0, .inr (0, [.int cp, .int cq, .long cs, .int cn, .int dp, .int dq, .int dg, .ref h1, .ref h2])), (h1, .inl (a1, 8, .inl se)), (h2, .inl (a2, 8, .inl pu))] H := hP
    have hD : va_D A [(h0, .inr (0, [.int cp, .int cq, .long cs, .int cn, .int dp, .int dq, .int dg, .ref h1, .ref h2])), (h1, .inl (a1, 8, .inl se)), (h2, .inl (a2, 8, .inl pu))] := hD
    have hK : va_K (dC, dI) vwCl [(a1, .int), (a2, .int)] s := hK
    exact vx_out (E := E9) (fun x hx => (hEx x hx).elim) hlocks hce hcv hcl (fun t ht ha => ⟨(cp, cq, cs, cn, dp, dq, dg, se, pu), trivial, ⟨⟨rfl, hE9, by rw [dk_ffor, if_pos hnk]⟩, by rw [ht]; exact hP, va_K.moved ha hK, hD⟩, hS.F ht⟩) hS.2.2 (Nat.le_of_ble_eq_true rfl) (Nat.le_of_ble_eq_true rfl)
  obtain ⟨rfl, hhk⟩ := hw
  obtain ⟨j, hj, rfl⟩ := dk_sl_of.mp hhk.1
  have hse : ¬ se j = 0 := (dk_hk_nI hj).mp hhk
  obtain ⟨hP1, hK1, hD1⟩ := hB
  rw [ht] at hP1
  have hK1 := va_K.moved hvm.symm hK1
  obtain ⟨hP, hD⟩ := va_join (wr := []) (w1 := [(h0, .inr (0, [.int cp, .int cq, .long cs, .int cn, .int dp, .int dq, .int dg, .ref h1, .ref h2])), (h1, .inl (a1, 8, .inl se)), (h2, .inl (a2, 8, .inl pu))]) hP hD [0, 1, 2] [] rfl rfl (by decide) (by decide) hk1 hFc hP1 hD1
  have hK := (hK.sub (tys' := []) [] rfl).app hK1
  generalize H1 = H at hP hS ⊢
  have hP : va_P (dC, dI) vwCl [(h0, .inr (0, [.int cp, .int cq, .long cs, .int cn, .int dp, .int dq, .int dg, .ref h1, .ref h2])), (h1, .inl (a1, 8, .inl se)), (h2, .inl (a2, 8, .inl pu))] H := hP
  have hD : va_D A [(h0, .inr (0, [.int cp, .int cq, .long cs, .int cn, .int dp, .int dq, .int dg, .ref h1, .ref h2])), (h1, .inl (a1, 8, .inl se)), (h2, .inl (a2, 8, .inl pu))] := hD
  have hK : va_K (dC, dI) vwCl [(a1, .int), (a2, .int)] s := hK
  refine lv_aload_n hx hb dX0_forget_5 rfl (lv_at hl 0 rfl) ?_
  refine lv_iload_n hx hb dX0_forget_6 rfl (lv_at hl 1 rfl) ?_
  have hPc := hP.sub (ws' := [(h0, .inr (0, [.int cp, .int cq, .long cs, .int cn, .int dp, .int dq, .int dg, .ref h1, .ref h2])), (h1, .inl (a1, 8, .inl se)), (h2, .inl (a2, 8, .inl pu))]) [0, 1, 2] rfl
  have hDc := hD.sub (ws' := [(h0, .inr (0, [.int cp, .int cq, .long cs, .int cn, .int dp, .int dq, .int dg, .ref h1, .ref h2])), (h1, .inl (a1, 8, .inl se)), (h2, .inl (a2, 8, .inl pu))]) [0, 1, 2] (by decide) rfl
  have hKc := hK.sub (tys' := [(a1, .int), (a2, .int)]) [0, 1] rfl
  have hFc := va_free (wc := [(h0, .inr (0, [.int cp, .int cq, .long cs, .int cn, .int dp, .int dq, .int dg, .ref h1, .ref h2])), (h1, .inl (a1, 8, .inl se)), (h2, .inl (a2, 8, .inl pu))]) hD hS hA [0, 1, 2] rfl
  refine va_callv (va_runV (As := [.int (nI j)]) (rest := []) ⟨hx, hb, hml, hown, hts⟩ (dk_c_clearSlot l dC dI h0 h1 h2 a1 a2 cp cq cs cn dp dq dg se pu j hj _) (cwV 1 hts gX0_forget_X0_clearSlot rfl rfl rfl (by decide +kernel) ⟨Nat.le_of_ble_eq_true rfl, Nat.le_of_ble_eq_true rfl⟩) ⟨fun a U g mk q => by obtain ⟨q0, q1, qP, qK, qD⟩ := q; exact ⟨q0, q1, qP, va_K.moved (u := U) (U := U.calling g mk a) (Vm.Alike.refl U.vm) qK, qD⟩, va_recv hKc hPc (ci := 0) (q0 := 0) rfl rfl, fun U hU hW => ⟨rfl, by rw [hU], by rw [hU]; exact hPc, va_K.moved hW.alike hKc, hDc.weaken (fun _ _ _ _ => trivial)⟩⟩ rfl rfl hl.1 rfl (lv_room (Nat.le_of_ble_eq_true rfl)) dX0_forget_7 ⟨Nat.le_of_ble_eq_true rfl, Nat.le_of_ble_eq_true rfl⟩) hS (fun q _ h => hFc q h) hFc (fun u t H1 locs ht hvm hw hB hz1 hk1 hS => ?_)
  subst hw
  obtain ⟨hP1, hK1, hD1⟩ := hB
  rw [ht] at hP1
  have hK1 := va_K.moved hvm.symm hK1
  obtain ⟨hP, hD⟩ := va_join (wr := []) (w1 := [(h0, .inr (0, [.int cp, .int cq, .long cs, .int cn, .int dp, .int dq, .int dg, .ref h1, .ref h2])), (h1, .inl (a1, 8, .inl (upd se j 0))), (h2, .inl (a2, 8, .inl (upd pu j 0)))]) hP hD [0, 1, 2] [] rfl rfl (by decide) (by decide) hk1 hFc hP1 hD1
  have hK := (hK.sub (tys' := []) [] rfl).app hK1
  generalize H1 = H at hP hS ⊢
  have hP : va_P (dC, dI) vwCl [(h0, .inr (0, [.int cp, .int cq, .long cs, .int cn, .int dp, .int dq, .int dg, .ref h1, .ref h2])), (h1, .inl (a1, 8, .inl (upd se j 0))), (h2, .inl (a2, 8, .inl (upd pu j 0)))] H := hP
  have hD : va_D A [(h0, .inr (0, [.int cp, .int cq, .long cs, .int cn, .int dp, .int dq, .int dg, .ref h1, .ref h2])), (h1, .inl (a1, 8, .inl (upd se j 0))), (h2, .inl (a2, 8, .inl (upd pu j 0)))] := hD
  have hK : va_K (dC, dI) vwCl [(a1, .int), (a2, .int)] s := hK
  exact vx_ret (W.vret hx hb hr (fun t ht hW => ⟨⟨(cp, cq, cs, cn, dp, dq, dg, (upd se j 0), (upd pu j 0)), rfl, ⟨by rw [dk_n_nI (by omega)], by rw [dk_ffor, if_neg (fun q => q hhk)]⟩, by rw [ht]; exact hP, va_K.moved hW.alike hK, hD⟩, hS.F ht⟩) hS.2.2 dX0_forget_10)

set_option maxHeartbeats 4000000 in
set_option maxRecDepth 100000 in
theorem dk_c_fits (l : Launch) (hl9 : l.stackTraces = false) (dC : Nat → ClassId) (dI : Nat → Nat → Nat) (h0 h1 h2 : Nat) (a1 a2 : ClassId) (cp cq : Int32) (cs : Int64) (cn dp dq dg : Int32) (se pu : Nat → Int32) (y : Int32) (hI : dk_ID dp dq dg) (sz : Nat) : vx_Met l yX0_fits wsX0_fits ({ frames := 7, cells := 1, slots := 6, locals := 102 }) (va_Pc [.ref h0, .int y] (fun U => U.heap.size = sz ∧ va_P (dC, dI) vwCl [(h0, .inr (0, [.int cp, .int cq, .long cs, .int cn, .int dp, .int dq, .int dg, .ref h1, .ref h2])), (h1, .inl (a1, 8, .inl se)), (h2, .inl (a2, 8, .inl pu))] U.heap ∧ va_K (dC, dI) vwCl [(a1, .int), (a2, .int)] U ∧ va_D (fun _ => True) [(h0, .inr (0, [.int cp, .int cq, .long cs, .int cn, .int dp, .int dq, .int dg, .ref h1, .ref h2])), (h1, .inl (a1, 8, .inl se)), (h2, .inl (a2, 8, .inl pu))] ∧ dk_E (va_A [(h0, .inr (0, [.int cp, .int cq, .long cs, .int cn, .int dp, .int dq, .int dg, .ref h1, .ref h2])), (h1, .inl (a1, 8, .inl se)), (h2, .inl (a2, 8, .inl pu))] sz) U U.heap)) (va_Qi (fun (r9 : Int32) (u9 : dk_S) => u9 = (cp, cq, cs, cn, dp, dq, dg, se, pu) ∧ dk_ffit dp dq y = (0, r9)) (dk_B dC dI (va_A [(h0, .inr (0, [.int cp, .int cq, .long cs, .int cn, .int dp, .int dq, .int dg, .ref h1, .ref h2])), (h1, .inl (a1, 8, .inl se)), (h2, .inl (a2, 8, .inl pu))] sz) h0 h1 h2 a1 a2) (va_A [(h0, .inr (0, [.int cp, .int cq, .long cs, .int cn, .int dp, .int dq, .int dg, .ref h1, .ref h2])), (h1, .inl (a1, 8, .inl se)), (h2, .inl (a2, 8, .inl pu))] sz)) (vx_X (fun _ : dk_S => True) (fun E9 u9 t9 => (u9 = (cp, cq, cs, cn, dp, dq, dg, se, pu) ∧ E9 = "java/lang/IllegalStateException" ∧ dk_ffit dp dq y = (1, 0)) ∧ dk_B dC dI (va_A [(h0, .inr (0, [.int cp, .int cq, .long cs, .int cn, .int dp, .int dq, .int dg, .ref h1, .ref h2])), (h1, .inl (a1, 8, .inl se)), (h2, .inl (a2, 8, .inl pu))] sz) h0 h1 h2 a1 a2 u9 t9) (va_A [(h0, .inr (0, [.int cp, .int cq, .long cs, .int cn, .int dp, .int dq, .int dg, .ref h1, .ref h2])), (h1, .inl (a1, 8, .inl se)), (h2, .inl (a2, 8, .inl pu))] sz)) 1 6 (va_A [(h0, .inr (0, [.int cp, .int cq, .long cs, .int cn, .int dp, .int dq, .int dg, .ref h1, .ref h2])), (h1, .inl (a1, 8, .inl se)), (h2, .inl (a2, 8, .inl pu))] sz) := by
  refine vx_ofW (cc := cX0_fits) (maxL := 2) (ret := (some .boolean)) (by decide) rfl ?_
  intro p e s m args below meth c s₁ B hml hEx hv
  obtain ⟨rfl, hsz, hP, hK, hD0, hE⟩ := hv
  have hx := B.exec
  have hb := B.bytes
  have hr := B.returns
  have hts := atoms_spec (ws := wsX0_fits) B.pre
  have hown : s.vm.findClass RX0 = some m.cls := findClass_of_methodNamed B.named
  have hlocks := B.notSynchronized
  subst hsz
  have hD := hD0.self (sz := s.heap.size)
  generalize hAe : va_A [(h0, .inr (0, [.int cp, .int cq, .long cs, .int cn, .int dp, .int dq, .int dg, .ref h1, .ref h2])), (h1, .inl (a1, 8, .inl se)), (h2, .inl (a2, 8, .inl pu))] s.heap.size = A at hD hE ⊢
  have hA : ∀ q : Nat, s.heap.size ≤ q → A q := fun q h => by rw [← hAe]; exact Or.inr h
  have hS : va_S A s.heap s.heap [] := va_S.rf
  have hl := lv_entry ([.ref h0, .int y]) (n := 2) (Nat.le_of_ble_eq_true rfl)
  rw [lg_entry_eq]
  generalize (lg_sl ([.ref h0, .int y]) ++ List.replicate (2 - (lg_sl ([.ref h0, .int y])).length) Slot.unset).toArray = ls at hl ⊢
  have hl : lv_has ls 2 [(0, .ref h0), (1, .int y)] := hl
  refine lv_aload_n hx hb dX0_fits_0 rfl (lv_at hl 0 rfl) ?_
  have hPc := hP.sub (ws' := [(h0, .inr (0, [.int cp, .int cq, .long cs, .int cn, .int dp, .int dq, .int dg, .ref h1, .ref h2])), (h1, .inl (a1, 8, .inl se)), (h2, .inl (a2, 8, .inl pu))]) [0, 1, 2] rfl
  have hDc := hD.sub (ws' := [(h0, .inr (0, [.int cp, .int cq, .long cs, .int cn, .int dp, .int dq, .int dg, .ref h1, .ref h2])), (h1, .inl (a1, 8, .inl se)), (h2, .inl (a2, 8, .inl pu))]) [0, 1, 2] (by decide) rfl
  have hKc := hK.sub (tys' := [(a1, .int), (a2, .int)]) [0, 1] rfl
  have hFc := va_free (wc := [(h0, .inr (0, [.int cp, .int cq, .long cs, .int cn, .int dp, .int dq, .int dg, .ref h1, .ref h2])), (h1, .inl (a1, 8, .inl se)), (h2, .inl (a2, 8, .inl pu))]) hD hS hA [0, 1, 2] rfl
  refine vx_callv (vx_runV (As := []) (rest := []) ⟨hx, hb, hml, hown, hts⟩ (dk_c_requireDomain l hl9 dC dI h0 h1 h2 a1 a2 cp cq cs cn dp dq dg se pu  _) (cwV 0 hts gX0_fits_X0_requireDomain rfl rfl rfl (by decide +kernel) ⟨Nat.le_of_ble_eq_true rfl, Nat.le_of_ble_eq_true rfl⟩) ⟨fun a U g mk q => by obtain ⟨q0, q1, qP, qK, qD, qE⟩ := q; exact ⟨q0, q1, qP, va_K.moved (u := U) (U := U.calling g mk a) (Vm.Alike.refl U.vm) qK, qD, qE.blind⟩, va_recv hKc hPc (ci := 0) (q0 := 0) rfl rfl, fun U hU hW => ⟨rfl, by rw [hU], by rw [hU]; exact hPc, va_K.moved hW.alike hKc, hDc.weaken (fun _ _ _ _ => trivial), hE.go hS hFc hU hW⟩⟩ rfl rfl hl.1 rfl (lv_room (Nat.le_of_ble_eq_true rfl)) dX0_fits_1 ⟨Nat.le_of_ble_eq_true rfl, Nat.le_of_ble_eq_true rfl⟩) hS (fun q _ h => hFc q h) hFc (fun q _ h => hFc q h) (fun E9 ce q9 u t H1 locs ht hvm hw hB hz1 hk1 hS hce hcv hcl => ?_) (fun u t H1 locs ht hvm hw hB hz1 hk1 hS => ?_)
  · obtain ⟨hEc, hB⟩ := hB
    obtain ⟨rfl, hE9, hnd⟩ := hEc
    obtain ⟨hP1, hK1, hD1⟩ := hB
    rw [ht] at hP1
    have hK1 := va_K.moved hvm.symm hK1
    obtain ⟨hP, hD⟩ := va_join (wr := []) (w1 := [(h0, .inr (0, [.int cp, .int cq, .long cs, .int cn, .int dp, .int dq, .int dg, .ref h1, .ref h2])), (h1, .inl (a1, 8, .inl se)), (h2, .inl (a2, 8, .inl pu))]) hP hD [0, 1, 2] [] rfl rfl (by decide) (by decide) hk1 hFc hP1 hD1
    have hK := (hK.sub (tys' := []) [] rfl).app hK1
    generalize H1 = H at hP hS hce ⊢
    have hP : va_P (dC, dI) vwCl [(h0, .inr (0, [.int cp, .int cq, .long cs, .int cn, .int dp, .int dq, .int dg, .ref h1, .ref h2])), (h1, .inl (a1, 8, .inl se)), (h2, .inl (a2, 8, .inl pu))] H := hP
    have hD : va_D A [(h0, .inr (0, [.int cp, .int cq, .long cs, .int cn, .int dp, .int dq, .int dg, .ref h1, .ref h2])), (h1, .inl (a1, 8, .inl se)), (h2, .inl (a2, 8, .inl pu))] := hD
    have hK : va_K (dC, dI) vwCl [(a1, .int), (a2, .int)] s := hK
    exact vx_out (E := E9) (fun x hx => (hEx x hx).elim) hlocks hce hcv hcl (fun t ht ha => ⟨(cp, cq, cs, cn, dp, dq, dg, se, pu), trivial, ⟨⟨rfl, hE9, by rw [dk_ffit, if_pos hnd]⟩, by rw [ht]; exact hP, va_K.moved ha hK, hD⟩, hS.F ht⟩) hS.2.2 (Nat.le_of_ble_eq_true rfl) (Nat.le_of_ble_eq_true rfl)
  obtain ⟨rfl, hdp⟩ := hw
  obtain ⟨P, Q9, G, hP9, hQ9, hdom, rfl, rfl, rfl⟩ := hI.resolve_left (fun q => hdp q.1)
  obtain ⟨hs1, hs2, hs3, hs4, hs5, hs6⟩ := dk_dom_sz hP9 hdom
  obtain ⟨hP1, hK1, hD1⟩ := hB
  rw [ht] at hP1
  have hK1 := va_K.moved hvm.symm hK1
  obtain ⟨hP, hD⟩ := va_join (wr := []) (w1 := [(h0, .inr (0, [.int cp, .int cq, .long cs, .int cn, .int (nI P), .int (nI Q9), .int (nI G), .ref h1, .ref h2])), (h1, .inl (a1, 8, .inl se)), (h2, .inl (a2, 8, .inl pu))]) hP hD [0, 1, 2] [] rfl rfl (by decide) (by decide) hk1 hFc hP1 hD1
  have hK := (hK.sub (tys' := []) [] rfl).app hK1
  generalize H1 = H at hP hS ⊢
  have hP : va_P (dC, dI) vwCl [(h0, .inr (0, [.int cp, .int cq, .long cs, .int cn, .int (nI P), .int (nI Q9), .int (nI G), .ref h1, .ref h2])), (h1, .inl (a1, 8, .inl se)), (h2, .inl (a2, 8, .inl pu))] H := hP
  have hD : va_D A [(h0, .inr (0, [.int cp, .int cq, .long cs, .int cn, .int (nI P), .int (nI Q9), .int (nI G), .ref h1, .ref h2])), (h1, .inl (a1, 8, .inl se)), (h2, .inl (a2, 8, .inl pu))] := hD
  have hK : va_K (dC, dI) vwCl [(a1, .int), (a2, .int)] s := hK
  refine lv_aload_n hx hb dX0_fits_4 rfl (lv_at hl 0 rfl) ?_
  refine lv_iload_n hx hb dX0_fits_5 rfl (lv_at hl 1 rfl) ?_
  have hPc := hP.sub (ws' := [(h0, .inr (0, [.int cp, .int cq, .long cs, .int cn, .int (nI P), .int (nI Q9), .int (nI G), .ref h1, .ref h2])), (h1, .inl (a1, 8, .inl se)), (h2, .inl (a2, 8, .inl pu))]) [0, 1, 2] rfl
  have hKc := hK.sub (tys' := [(a1, .int), (a2, .int)]) [0, 1] rfl
  refine vp_callSi (W.runV (As := [.int y]) (rest := []) ⟨hx, hb, hml, hown, hts⟩ (dk_c_isPeer l dC dI h0 h1 h2 a1 a2 cp cq cs cn (nI P) (nI Q9) (nI G) se pu y) (cwV 1 hts gX0_fits_X0_isPeer rfl rfl rfl (by decide +kernel) ⟨Nat.le_of_ble_eq_true rfl, Nat.le_of_ble_eq_true rfl⟩) ⟨fun a U g mk q => by obtain ⟨q0, qP, qK⟩ := q; exact ⟨q0, qP, va_K.moved (u := U) (U := U.calling g mk a) (Vm.Alike.refl U.vm) qK⟩, va_recv hKc hPc (ci := 0) (q0 := 0) rfl rfl, fun U hU hW => ⟨rfl, by rw [hU]; exact hPc, va_K.moved hW.alike hKc⟩⟩ rfl rfl hl.1 rfl (lv_room (Nat.le_of_ble_eq_true rfl)) dX0_fits_6 ⟨Nat.le_of_ble_eq_true rfl, Nat.le_of_ble_eq_true rfl⟩) (fun r_6 hr_6 => ?_)
  subst hr_6
  refine lv_if_eq (tgt := 32) hx hb dX0_fits_9 (by decide) (fun c_9 => ?_) (fun c_9 => ?_)
  · have hno : ¬ (dk_pe y (nI P) ∧ dk_pw y (nI Q9) (nI P) = 1) := fun q => by
      rw [if_pos q.1] at c_9
      exact absurd c_9 (by decide)
    refine lv_iconst (v := 0) hx hb dX0_fits_32 (by decide) ?_
    exact vx_ret (W.zret (v := 0) (ty := .boolean) hx hb hr rfl (fun t ht hW => ⟨⟨0, (cp, cq, cs, cn, nI P, nI Q9, nI G, se, pu), rfl, ⟨rfl, by rw [dk_ffit, if_neg hdp, if_neg hno]⟩, by rw [ht]; exact hP, va_K.moved hW.alike hK, hD⟩, hS.F ht⟩) hS.2.2 dX0_fits_33)
  · have hpe : dk_pe y (nI P) := by
      by_cases q : dk_pe y (nI P)
      · exact q
      · exact absurd (if_neg q) c_9
    obtain ⟨y9, hy1, hy2, rfl⟩ := (dk_pe_of (by omega) hP9).mp hpe
    refine lv_iload_n hx hb dX0_fits_12 rfl (lv_at hl 1 rfl) ?_
    refine lv_aload_n hx hb dX0_fits_13 rfl (lv_at hl 0 rfl) ?_
    refine va_get (D := (dC, dI)) (ci := 0) (v := .int (nI Q9)) (C := RX0) (T := TX0) (N := 9) hx hb hts (by decide +kernel) hown hK hP 0 rfl rfl 5 (by decide) (hts (.fieldLink RX0 69 "DomainKeys" "domainQ" "I") (by decide +kernel)) (fun _ h9 => h9) rfl dX0_fits_14 ?_
    refine lv_aload_n hx hb dX0_fits_17 rfl (lv_at hl 0 rfl) ?_
    refine va_get (D := (dC, dI)) (ci := 0) (v := .int (nI P)) (C := RX0) (T := TX0) (N := 9) hx hb hts (by decide +kernel) hown hK hP 0 rfl rfl 4 (by decide) (hts (.fieldLink RX0 66 "DomainKeys" "domainP" "I") (by decide +kernel)) (fun _ h9 => h9) rfl dX0_fits_18 ?_
    refine vp_callSi (W.runS (As := [.int (nI y9), .int (nI Q9), .int (nI P)]) (rest := []) ⟨hx, hb, hml, hown, hts⟩ (dk_c_power l y9 Q9 P (by omega) hQ9 (by omega) hP9) (va_cwS 3 hts gX0_fits_X0_power rfl rfl rfl (by decide +kernel) ⟨Nat.le_of_ble_eq_true rfl, Nat.le_of_ble_eq_true rfl⟩) ⟨fun _ _ _ _ q9 => q9, fun U hU hW => ⟨rfl, trivial⟩⟩ rfl rfl hl.1 rfl (lv_room (Nat.le_of_ble_eq_true rfl)) dX0_fits_21 ⟨Nat.le_of_ble_eq_true rfl, Nat.le_of_ble_eq_true rfl⟩) (fun r_21 hr_21 => ?_)
    subst hr_21
    refine lv_iconst (v := 1) hx hb dX0_fits_24 (by decide) ?_
    refine lv_icmp_ne (tgt := 32) hx hb dX0_fits_25 (by decide) (fun c_25 => ?_) (fun c_25 => ?_)
    · have hno : ¬ (dk_pe (nI y9) (nI P) ∧ dk_pw (nI y9) (nI Q9) (nI P) = 1) := fun q => by
        rw [dk_pw_nI (by omega) hQ9 hP9] at q
        exact c_25 q.2
      refine lv_iconst (v := 0) hx hb dX0_fits_32 (by decide) ?_
      exact vx_ret (W.zret (v := 0) (ty := .boolean) hx hb hr rfl (fun t ht hW => ⟨⟨0, (cp, cq, cs, cn, nI P, nI Q9, nI G, se, pu), rfl, ⟨rfl, by rw [dk_ffit, if_neg hdp, if_neg hno]⟩, by rw [ht]; exact hP, va_K.moved hW.alike hK, hD⟩, hS.F ht⟩) hS.2.2 dX0_fits_33)
    · have hyes : dk_pe (nI y9) (nI P) ∧ dk_pw (nI y9) (nI Q9) (nI P) = 1 := ⟨hpe, by rw [dk_pw_nI (by omega) hQ9 hP9]; exact c_25⟩
      refine lv_iconst (v := 1) hx hb dX0_fits_28 (by decide) ?_
      refine lv_goto (tgt := 33) hx hb dX0_fits_29 (by decide) ?_
      exact vx_ret (W.zret (v := 1) (ty := .boolean) hx hb hr rfl (fun t ht hW => ⟨⟨1, (cp, cq, cs, cn, nI P, nI Q9, nI G, se, pu), rfl, ⟨rfl, by rw [dk_ffit, if_neg hdp, if_pos hyes]⟩, by rw [ht]; exact hP, va_K.moved hW.alike hK, hD⟩, hS.F ht⟩) hS.2.2 dX0_fits_33)
