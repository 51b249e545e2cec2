set_option maxHeartbeats 4000000 in
set_option maxRecDepth 100000 in
theorem dk_c_sign (l : Launch) (hl9 : l.stackTraces = false) (dC : Nat → ClassId) (dI : Nat → Nat → Nat) (h0 h1 h2 : Nat) (a1 a2 : ClassId) (cp cq : Int32) (cs : Int64) (cn dp dq dg : Int32) (se pu : Nat → Int32) (x : Int32) (a : Int64) (k : Int32) (hI : dk_ID dp dq dg) (hIK : dk_IK dp dq dg se pu) (sz : Nat) : vx_Met l yX0_sign wsX0_sign ({ frames := 7, cells := 2, slots := 12, locals := 103 }) (va_Pc [.ref h0, .int x, .long a, .int k] (fun U => U.heap.size = sz ∧ va_P (dC, dI) vwCl [(h0, .inr (0, [.int cp, .int cq, .long cs, .int cn, .int dp, .int dq, .int dg, .ref h1, .ref h2])), (h1, .inl (a1, 8, .inl se)), (h2, .inl (a2, 8, .inl pu))] U.heap ∧ va_K (dC, dI) vwCl [(a1, .int), (a2, .int)] U ∧ va_D (fun _ => True) [(h0, .inr (0, [.int cp, .int cq, .long cs, .int cn, .int dp, .int dq, .int dg, .ref h1, .ref h2])), (h1, .inl (a1, 8, .inl se)), (h2, .inl (a2, 8, .inl pu))] ∧ dk_E (va_A [(h0, .inr (0, [.int cp, .int cq, .long cs, .int cn, .int dp, .int dq, .int dg, .ref h1, .ref h2])), (h1, .inl (a1, 8, .inl se)), (h2, .inl (a2, 8, .inl pu))] sz) U U.heap)) (va_Ql (fun (r9 : Int64) (u9 : dk_S) => u9 = (cp, cq, cs, cn, dp, dq, dg, se, pu) ∧ dk_fsig dp dq dg se x a k = (0, r9)) (dk_B dC dI (va_A [(h0, .inr (0, [.int cp, .int cq, .long cs, .int cn, .int dp, .int dq, .int dg, .ref h1, .ref h2])), (h1, .inl (a1, 8, .inl se)), (h2, .inl (a2, 8, .inl pu))] sz) h0 h1 h2 a1 a2) (va_A [(h0, .inr (0, [.int cp, .int cq, .long cs, .int cn, .int dp, .int dq, .int dg, .ref h1, .ref h2])), (h1, .inl (a1, 8, .inl se)), (h2, .inl (a2, 8, .inl pu))] sz)) (vx_X (fun _ : dk_S => True) (fun E9 u9 t9 => (u9 = (cp, cq, cs, cn, dp, dq, dg, se, pu) ∧ ((E9 = "java/util/NoSuchElementException" ∧ dk_fsig dp dq dg se x a k = (1, 0)) ∨ (E9 = "java/lang/IllegalArgumentException" ∧ dk_fsig dp dq dg se x a k = (2, 0)) ∨ (E9 = "java/lang/ArithmeticException" ∧ dk_fsig dp dq dg se x a k = (3, 0)))) ∧ dk_B dC dI (va_A [(h0, .inr (0, [.int cp, .int cq, .long cs, .int cn, .int dp, .int dq, .int dg, .ref h1, .ref h2])), (h1, .inl (a1, 8, .inl se)), (h2, .inl (a2, 8, .inl pu))] sz) h0 h1 h2 a1 a2 u9 t9) (va_A [(h0, .inr (0, [.int cp, .int cq, .long cs, .int cn, .int dp, .int dq, .int dg, .ref h1, .ref h2])), (h1, .inl (a1, 8, .inl se)), (h2, .inl (a2, 8, .inl pu))] sz)) 2 12 (va_A [(h0, .inr (0, [.int cp, .int cq, .long cs, .int cn, .int dp, .int dq, .int dg, .ref h1, .ref h2])), (h1, .inl (a1, 8, .inl se)), (h2, .inl (a2, 8, .inl pu))] sz) := by
  refine vx_ofW (cc := cX0_sign) (maxL := 11) (ret := (some .long)) (by decide) rfl ?_
  intro p e s m args below meth c s₁ B hml hEx hv
  obtain ⟨rfl, hsz, hP, hK, hD0, hE⟩ := hv
  have hx := B.exec
  have hb := B.bytes
  have hr := B.returns
  have hts := atoms_spec (ws := wsX0_sign) B.pre
  have hown : s.vm.findClass RX0 = some m.cls := findClass_of_methodNamed B.named
  have hlocks := B.notSynchronized
  subst hsz
  have hD := hD0.self (sz := s.heap.size)
  generalize hAe : va_A [(h0, .inr (0, [.int cp, .int cq, .long cs, .int cn, .int dp, .int dq, .int dg, .ref h1, .ref h2])), (h1, .inl (a1, 8, .inl se)), (h2, .inl (a2, 8, .inl pu))] s.heap.size = A at hD hE ⊢
  have hA : ∀ q : Nat, s.heap.size ≤ q → A q := fun q h => by rw [← hAe]; exact Or.inr h
  have hS : va_S A s.heap s.heap [] := va_S.rf
  have hl := lv_entry ([.ref h0, .int x, .long a, .int k]) (n := 11) (Nat.le_of_ble_eq_true rfl)
  rw [lg_entry_eq]
  generalize (lg_sl ([.ref h0, .int x, .long a, .int k]) ++ List.replicate (11 - (lg_sl ([.ref h0, .int x, .long a, .int k])).length) Slot.unset).toArray = ls at hl ⊢
  have hl : lv_has ls 11 [(0, .ref h0), (1, .int x), (2, .long a), (4, .int k)] := hl
  refine lv_aload_n hx hb dX0_sign_0 rfl (lv_at hl 0 rfl) ?_
  refine lv_iload_n hx hb dX0_sign_1 rfl (lv_at hl 1 rfl) ?_
  have hPc := hP.sub (ws' := [(h0, .inr (0, [.int cp, .int cq, .long cs, .int cn, .int dp, .int dq, .int dg, .ref h1, .ref h2])), (h1, .inl (a1, 8, .inl se)), (h2, .inl (a2, 8, .inl pu))]) [0, 1, 2] rfl
  have hDc := hD.sub (ws' := [(h0, .inr (0, [.int cp, .int cq, .long cs, .int cn, .int dp, .int dq, .int dg, .ref h1, .ref h2])), (h1, .inl (a1, 8, .inl se)), (h2, .inl (a2, 8, .inl pu))]) [0, 1, 2] (by decide) rfl
  have hKc := hK.sub (tys' := [(a1, .int), (a2, .int)]) [0, 1] rfl
  have hFc := va_free (wc := [(h0, .inr (0, [.int cp, .int cq, .long cs, .int cn, .int dp, .int dq, .int dg, .ref h1, .ref h2])), (h1, .inl (a1, 8, .inl se)), (h2, .inl (a2, 8, .inl pu))]) hD hS hA [0, 1, 2] rfl
  refine vx_callv (vx_runV (As := [.int x]) (rest := []) ⟨hx, hb, hml, hown, hts⟩ (dk_c_requireKey l hl9 dC dI h0 h1 h2 a1 a2 cp cq cs cn dp dq dg se pu x _) (cwV 1 hts gX0_sign_X0_requireKey rfl rfl rfl (by decide +kernel) ⟨Nat.le_of_ble_eq_true rfl, Nat.le_of_ble_eq_true rfl⟩) ⟨fun a U g mk q => by obtain ⟨q0, q1, qP, qK, qD, qE⟩ := q; exact ⟨q0, q1, qP, va_K.moved (u := U) (U := U.calling g mk a) (Vm.Alike.refl U.vm) qK, qD, qE.blind⟩, va_recv hKc hPc (ci := 0) (q0 := 0) rfl rfl, fun U hU hW => ⟨rfl, by rw [hU], by rw [hU]; exact hPc, va_K.moved hW.alike hKc, hDc.weaken (fun _ _ _ _ => trivial), hE.go hS hFc hU hW⟩⟩ rfl rfl hl.1 rfl (lv_room (Nat.le_of_ble_eq_true rfl)) dX0_sign_2 ⟨Nat.le_of_ble_eq_true rfl, Nat.le_of_ble_eq_true rfl⟩) hS (fun q _ h => hFc q h) hFc (fun q _ h => hFc q h) (fun E9 ce q9 u t H1 locs ht hvm hw hB hz1 hk1 hS hce hcv hcl => ?_) (fun u t H1 locs ht hvm hw hB hz1 hk1 hS => ?_)
  · obtain ⟨hEc, hB⟩ := hB
    obtain ⟨rfl, hE9, hnk⟩ := hEc
    obtain ⟨hP1, hK1, hD1⟩ := hB
    rw [ht] at hP1
    have hK1 := va_K.moved hvm.symm hK1
    obtain ⟨hP, hD⟩ := va_join (wr := []) (w1 := [(h0, .inr (0, [.int cp, .int cq, .long cs, .int cn, .int dp, .int dq, .int dg, .ref h1, .ref h2])), (h1, .inl (a1, 8, .inl se)), (h2, .inl (a2, 8, .inl pu))]) hP hD [0, 1, 2] [] rfl rfl (by decide) (by decide) hk1 hFc hP1 hD1
    have hK := (hK.sub (tys' := []) [] rfl).app hK1
    generalize H1 = H at hP hS hce ⊢
    have hP : va_P (dC, dI) vwCl [(h0, .inr (0, [.int cp, .int cq, .long cs, .int cn, .int dp, .int dq, .int dg, .ref h1, .ref h2])), (h1, .inl (a1, 8, .inl se)), (h2, .inl (a2, 8, .inl pu))] H := hP
    have hD : va_D A [(h0, .inr (0, [.int cp, .int cq, .long cs, .int cn, .int dp, .int dq, .int dg, .ref h1, .ref h2])), (h1, .inl (a1, 8, .inl se)), (h2, .inl (a2, 8, .inl pu))] := hD
    have hK : va_K (dC, dI) vwCl [(a1, .int), (a2, .int)] s := hK
    exact vx_out (E := E9) (fun x hx => (hEx x hx).elim) hlocks hce hcv hcl (fun t ht ha => ⟨(cp, cq, cs, cn, dp, dq, dg, se, pu), trivial, ⟨⟨rfl, Or.inl ⟨hE9, by rw [dk_fsig, if_pos hnk]⟩⟩, by rw [ht]; exact hP, va_K.moved ha hK, hD⟩, hS.F ht⟩) hS.2.2 (Nat.le_of_ble_eq_true rfl) (Nat.le_of_ble_eq_true rfl)
  obtain ⟨rfl, hhk⟩ := hw
  obtain ⟨j, hj, rfl⟩ := dk_sl_of.mp hhk.1
  have hse : ¬ se j = 0 := (dk_hk_nI hj).mp hhk
  obtain ⟨hdp, hex0, -⟩ := (hIK j hj).resolve_left hse
  obtain ⟨P, Q9, G, hP9, hQ9, hdom, rfl, rfl, rfl⟩ := hI.resolve_left (fun q => hdp q.1)
  obtain ⟨hs1, hs2, hs3, hs4, hs5, hs6⟩ := dk_dom_sz hP9 hdom
  obtain ⟨x9, hx91, hx92, hx93⟩ := dk_ex_of hQ9 hex0
  obtain ⟨hP1, hK1, hD1⟩ := hB
  rw [ht] at hP1
  have hK1 := va_K.moved hvm.symm hK1
  obtain ⟨hP, hD⟩ := va_join (wr := []) (w1 := [(h0, .inr (0, [.int cp, .int cq, .long cs, .int cn, .int (nI P), .int (nI Q9), .int (nI G), .ref h1, .ref h2])), (h1, .inl (a1, 8, .inl se)), (h2, .inl (a2, 8, .inl pu))]) hP hD [0, 1, 2] [] rfl rfl (by decide) (by decide) hk1 hFc hP1 hD1
  have hK := (hK.sub (tys' := []) [] rfl).app hK1
  generalize H1 = H at hP hS ⊢
  have hP : va_P (dC, dI) vwCl [(h0, .inr (0, [.int cp, .int cq, .long cs, .int cn, .int (nI P), .int (nI Q9), .int (nI G), .ref h1, .ref h2])), (h1, .inl (a1, 8, .inl se)), (h2, .inl (a2, 8, .inl pu))] H := hP
  have hD : va_D A [(h0, .inr (0, [.int cp, .int cq, .long cs, .int cn, .int (nI P), .int (nI Q9), .int (nI G), .ref h1, .ref h2])), (h1, .inl (a1, 8, .inl se)), (h2, .inl (a2, 8, .inl pu))] := hD
  have hK : va_K (dC, dI) vwCl [(a1, .int), (a2, .int)] s := hK
  refine lv_aload_n hx hb dX0_sign_5 rfl (lv_at hl 0 rfl) ?_
  refine lv_iload hx hb dX0_sign_6 (lv_at hl 3 rfl) ?_
  have hPc := hP.sub (ws' := [(h0, .inr (0, [.int cp, .int cq, .long cs, .int cn, .int (nI P), .int (nI Q9), .int (nI G), .ref h1, .ref h2])), (h1, .inl (a1, 8, .inl se)), (h2, .inl (a2, 8, .inl pu))]) [0, 1, 2] rfl
  have hKc := hK.sub (tys' := [(a1, .int), (a2, .int)]) [0, 1] rfl
  refine vp_callSi (W.runV (As := [.int k]) (rest := []) ⟨hx, hb, hml, hown, hts⟩ (dk_c_isExponent l dC dI h0 h1 h2 a1 a2 cp cq cs cn (nI P) (nI Q9) (nI G) se pu k) (cwV 1 hts gX0_sign_X0_isExponent rfl rfl rfl (by decide +kernel) ⟨Nat.le_of_ble_eq_true rfl, Nat.le_of_ble_eq_true rfl⟩) ⟨fun a U g mk q => by obtain ⟨q0, qP, qK⟩ := q; exact ⟨q0, qP, va_K.moved (u := U) (U := U.calling g mk a) (Vm.Alike.refl U.vm) qK⟩, va_recv hKc hPc (ci := 0) (q0 := 0) rfl rfl, fun U hU hW => ⟨rfl, by rw [hU]; exact hPc, va_K.moved hW.alike hKc⟩⟩ rfl rfl hl.1 rfl (lv_room (Nat.le_of_ble_eq_true rfl)) dX0_sign_8 ⟨Nat.le_of_ble_eq_true rfl, Nat.le_of_ble_eq_true rfl⟩) (fun r_8 hr_8 => ?_)
  subst hr_8
  refine lv_if_ne (tgt := 24) hx hb dX0_sign_11 (by decide) (fun c_11 => ?_) (fun c_11 => ?_)
  · have hex : dk_ex k (nI Q9) := by
      by_cases q : dk_ex k (nI Q9)
      · exact q
      · exact absurd (if_neg q) c_11
    obtain ⟨k9, hk91, hk92, rfl⟩ := dk_ex_of hQ9 hex
    obtain ⟨R9, hR9⟩ : ∃ R9 : Nat, R9 = G ^ k9 % P % Q9 := ⟨_, rfl⟩
    have hRlt : R9 < Q9 := by rw [hR9]; exact Nat.mod_lt _ (by omega)
    have hpw : G ^ k9 % P < P := Nat.mod_lt _ (by omega)
    have hxr : x9 * R9 ≤ 1073741824 * 1073741824 := Nat.mul_le_mul (by omega) (by omega)
    have hzl := dk_z_lt a
    obtain ⟨I9, hI9⟩ : ∃ I9 : Nat, I9 = k9 ^ (Q9 - 2) % Q9 := ⟨_, rfl⟩
    have hIlt : I9 < Q9 := by rw [hI9]; exact Nat.mod_lt _ (by omega)
    obtain ⟨S1, hS1⟩ : ∃ S1 : Nat, S1 = (dk_z a + x9 * R9) % Q9 := ⟨_, rfl⟩
    have hS1lt : S1 < Q9 := by rw [hS1]; exact Nat.mod_lt _ (by omega)
    have hsi : S1 * I9 ≤ 1073741824 * 1073741824 := Nat.mul_le_mul (by omega) (by omega)
    obtain ⟨S9, hS9⟩ : ∃ S9 : Nat, S9 = S1 * I9 % Q9 := ⟨_, rfl⟩
    have hS9lt : S9 < Q9 := by rw [hS9]; exact Nat.mod_lt _ (by omega)
    have hsr : dk_sr (nI P) (nI Q9) (nI G) (nI k9) = R9 := by rw [dk_sr, dk_n_nI (by omega), dk_n_nI (by omega), dk_n_nI hP9, dk_n_nI hQ9, ← hR9]
    have hss : dk_ss (nI P) (nI Q9) (nI G) (se (dk_n (nI j))) (nI k9) a = S9 := by rw [dk_ss, hsr, dk_n_nI (show j < 2147483648 by omega), hx93, dk_n_nI (show x9 < 2147483648 by omega), dk_n_nI (show k9 < 2147483648 by omega), dk_n_nI hQ9, ← hS1, ← hI9, ← hS9]
    refine lv_aload_n hx hb dX0_sign_24 rfl (lv_at hl 0 rfl) ?_
    refine va_get (D := (dC, dI)) (ci := 0) (v := .int (nI G)) (C := RX0) (T := TX0) (N := 9) hx hb hts (by decide +kernel) hown hK hP 0 rfl rfl 6 (by decide) (hts (.fieldLink RX0 72 "DomainKeys" "domainG" "I") (by decide +kernel)) (fun _ h9 => h9) rfl dX0_sign_25 ?_
    refine lv_iload hx hb dX0_sign_28 (lv_at hl 3 rfl) ?_
    refine lv_aload_n hx hb dX0_sign_30 rfl (lv_at hl 0 rfl) ?_
    refine va_get (D := (dC, dI)) (ci := 0) (v := .int (nI P)) (C := RX0) (T := TX0) (N := 9) hx hb hts (by decide +kernel) hown hK hP 0 rfl rfl 4 (by decide) (hts (.fieldLink RX0 66 "DomainKeys" "domainP" "I") (by decide +kernel)) (fun _ h9 => h9) rfl dX0_sign_31 ?_
    refine vp_callSi (W.runS (As := [.int (nI G), .int (nI k9), .int (nI P)]) (rest := []) ⟨hx, hb, hml, hown, hts⟩ (dk_c_power l G k9 P (by omega) (by omega) (by omega) hP9) (va_cwS 3 hts gX0_sign_X0_power rfl rfl rfl (by decide +kernel) ⟨Nat.le_of_ble_eq_true rfl, Nat.le_of_ble_eq_true rfl⟩) ⟨fun _ _ _ _ q9 => q9, fun U hU hW => ⟨rfl, trivial⟩⟩ rfl rfl hl.1 rfl (lv_room (Nat.le_of_ble_eq_true rfl)) dX0_sign_34 ⟨Nat.le_of_ble_eq_true rfl, Nat.le_of_ble_eq_true rfl⟩) (fun r_34 hr_34 => ?_)
    subst hr_34
    refine lv_aload_n hx hb dX0_sign_37 rfl (lv_at hl 0 rfl) ?_
    refine va_get (D := (dC, dI)) (ci := 0) (v := .int (nI Q9)) (C := RX0) (T := TX0) (N := 9) hx hb hts (by decide +kernel) hown hK hP 0 rfl rfl 5 (by decide) (hts (.fieldLink RX0 69 "DomainKeys" "domainQ" "I") (by decide +kernel)) (fun _ h9 => h9) rfl dX0_sign_38 ?_
    refine lv_irem hx hb dX0_sign_41 (nI_ne0 (by omega) hQ9) ?_
    refine lv_topi (fun v_41 ev_41 => ?_)
    have ev_41 : v_41 = nI R9 := ev_41.trans ((pk_rem (by omega) (by omega) hQ9).trans (by rw [hR9]))
    subst ev_41
    refine lv_i2l hx hb dX0_sign_42 rfl ?_
    refine lv_topl (fun v_42 ev_42 => ?_)
    have ev_42 : v_42 = lN R9 := ev_42.trans (nI_l (by omega))
    subst ev_42
    refine lv_lstore (lv' := [(5, .long (lN R9)), (0, .ref h0), (1, .int (nI j)), (2, .long a), (4, .int (nI k9))]) hx hb dX0_sign_43 hl (by decide) rfl (fun ls hl => ?_)
    refine lv_aload_n hx hb dX0_sign_45 rfl (lv_at hl 1 rfl) ?_
    refine lv_lload_n hx hb dX0_sign_46 rfl (lv_at hl 3 rfl) ?_
    refine vp_callSi (W.runV (As := [.long a]) (rest := []) ⟨hx, hb, hml, hown, hts⟩ (dk_c_digest l h0 a) (cwV 1 hts gX0_sign_X0_digest rfl rfl rfl (by decide +kernel) ⟨Nat.le_of_ble_eq_true rfl, Nat.le_of_ble_eq_true rfl⟩) ⟨fun _ _ _ _ q9 => q9, va_recv hK hP (ci := 0) (q0 := 0) rfl rfl, fun U hU hW => ⟨rfl, trivial⟩⟩ rfl rfl hl.1 rfl (lv_room (Nat.le_of_ble_eq_true rfl)) dX0_sign_47 ⟨Nat.le_of_ble_eq_true rfl, Nat.le_of_ble_eq_true rfl⟩) (fun r_47 hr_47 => ?_)
    subst hr_47
    refine lv_i2l hx hb dX0_sign_50 rfl ?_
    refine lv_topl (fun v_50 ev_50 => ?_)
    have ev_50 : v_50 = lN (dk_z a) := ev_50.trans (nI_l (by omega))
    subst ev_50
    refine lv_aload_n hx hb dX0_sign_51 rfl (lv_at hl 1 rfl) ?_
    refine va_get (D := (dC, dI)) (ci := 0) (v := .ref h1) (C := RX0) (T := TX0) (N := 9) hx hb hts (by decide +kernel) hown hK hP 0 rfl rfl 7 (by decide) (hts (.fieldLink RX0 9 "DomainKeys" "secrets" "[I") (by decide +kernel)) (fun _ h9 => h9) rfl dX0_sign_52 ?_
    refine lv_iload_n hx hb dX0_sign_55 rfl (lv_at hl 2 rfl) ?_
    refine va_iald hx hb hK hP 1 0 rfl rfl (vp_in_nI hj (by decide)) dX0_sign_56 ?_
    refine lv_topi (fun v_56 ev_56 => ?_)
    have ev_56 : v_56 = se j := ev_56.trans (congrArg se (nI_clamp (Nat.lt_trans hj (by decide))))
    subst ev_56
    refine lv_topi (fun v_56 ev_56 => ?_)
    have ev_56 : v_56 = nI x9 := ev_56.trans hx93
    subst ev_56
    refine lv_i2l hx hb dX0_sign_57 rfl ?_
    refine lv_topl (fun v_57 ev_57 => ?_)
    have ev_57 : v_57 = lN x9 := ev_57.trans (nI_l (by omega))
    subst ev_57
    refine lv_lload hx hb dX0_sign_58 (lv_at hl 0 rfl) ?_
    refine lv_lmul hx hb dX0_sign_60 ?_
    refine lv_topl (fun v_60 ev_60 => ?_)
    have ev_60 : v_60 = lN (x9 * R9) := ev_60.trans (lN_mul _ _)
    subst ev_60
    refine lv_ladd hx hb dX0_sign_61 ?_
    refine lv_topl (fun v_61 ev_61 => ?_)
    have ev_61 : v_61 = lN (dk_z a + x9 * R9) := ev_61.trans (lN_add _ _)
    subst ev_61
    refine lv_lstore (lv' := [(7, .long (lN (dk_z a + x9 * R9))), (5, .long (lN R9)), (0, .ref h0), (1, .int (nI j)), (2, .long a), (4, .int (nI k9))]) hx hb dX0_sign_62 hl (by decide) rfl (fun ls hl => ?_)
    refine lv_lload hx hb dX0_sign_64 (lv_at hl 0 rfl) ?_
    refine lv_aload_n hx hb dX0_sign_66 rfl (lv_at hl 2 rfl) ?_
    refine va_get (D := (dC, dI)) (ci := 0) (v := .int (nI Q9)) (C := RX0) (T := TX0) (N := 9) hx hb hts (by decide +kernel) hown hK hP 0 rfl rfl 5 (by decide) (hts (.fieldLink RX0 69 "DomainKeys" "domainQ" "I") (by decide +kernel)) (fun _ h9 => h9) rfl dX0_sign_67 ?_
    refine lv_i2l hx hb dX0_sign_70 rfl ?_
    refine lv_topl (fun v_70 ev_70 => ?_)
    have ev_70 : v_70 = lN Q9 := ev_70.trans (nI_l hQ9)
    subst ev_70
    refine lv_lrem hx hb dX0_sign_71 (dk_lne (by omega) (by omega)) ?_
    refine lv_topl (fun v_71 ev_71 => ?_)
    have ev_71 : v_71 = lN S1 := ev_71.trans ((pk_lRem (by omega) (by omega) (by omega)).trans (by rw [hS1]))
    subst ev_71
    refine lv_iload hx hb dX0_sign_72 (lv_at hl 5 rfl) ?_
    refine lv_aload_n hx hb dX0_sign_74 rfl (lv_at hl 2 rfl) ?_
    refine va_get (D := (dC, dI)) (ci := 0) (v := .int (nI Q9)) (C := RX0) (T := TX0) (N := 9) hx hb hts (by decide +kernel) hown hK hP 0 rfl rfl 5 (by decide) (hts (.fieldLink RX0 69 "DomainKeys" "domainQ" "I") (by decide +kernel)) (fun _ h9 => h9) rfl dX0_sign_75 ?_
    refine vp_callSi (W.runS (As := [.int (nI k9), .int (nI Q9)]) (rest := [.long (lN S1)]) ⟨hx, hb, hml, hown, hts⟩ (dk_c_inverse l k9 Q9 (by omega) (by omega) hQ9) (va_cwS 2 hts gX0_sign_X0_inverse rfl rfl rfl (by decide +kernel) ⟨Nat.le_of_ble_eq_true rfl, Nat.le_of_ble_eq_true rfl⟩) ⟨fun _ _ _ _ q9 => q9, fun U hU hW => ⟨rfl, trivial⟩⟩ rfl rfl hl.1 rfl (lv_room (Nat.le_of_ble_eq_true rfl)) dX0_sign_78 ⟨Nat.le_of_ble_eq_true rfl, Nat.le_of_ble_eq_true rfl⟩) (fun r_78 hr_78 => ?_)
    subst hr_78
    refine lv_i2l hx hb dX0_sign_81 rfl ?_
    refine lv_topl (fun v_81 ev_81 => ?_)
    have ev_81 : v_81 = lN I9 := ev_81.trans ((nI_l (by omega)).trans (by rw [hI9]))
    subst ev_81
    refine lv_lmul hx hb dX0_sign_82 ?_
    refine lv_topl (fun v_82 ev_82 => ?_)
    have ev_82 : v_82 = lN (S1 * I9) := ev_82.trans (lN_mul _ _)
    subst ev_82
    refine lv_aload_n hx hb dX0_sign_83 rfl (lv_at hl 2 rfl) ?_
    refine va_get (D := (dC, dI)) (ci := 0) (v := .int (nI Q9)) (C := RX0) (T := TX0) (N := 9) hx hb hts (by decide +kernel) hown hK hP 0 rfl rfl 5 (by decide) (hts (.fieldLink RX0 69 "DomainKeys" "domainQ" "I") (by decide +kernel)) (fun _ h9 => h9) rfl dX0_sign_84 ?_
    refine lv_i2l hx hb dX0_sign_87 rfl ?_
    refine lv_topl (fun v_87 ev_87 => ?_)
    have ev_87 : v_87 = lN Q9 := ev_87.trans (nI_l hQ9)
    subst ev_87
    refine lv_lrem hx hb dX0_sign_88 (dk_lne (by omega) (by omega)) ?_
    refine lv_topl (fun v_88 ev_88 => ?_)
    have ev_88 : v_88 = lN S9 := ev_88.trans ((pk_lRem (by omega) (by omega) (by omega)).trans (by rw [hS9]))
    subst ev_88
    refine lv_lstore (lv' := [(9, .long (lN S9)), (7, .long (lN (dk_z a + x9 * R9))), (5, .long (lN R9)), (0, .ref h0), (1, .int (nI j)), (2, .long a), (4, .int (nI k9))]) hx hb dX0_sign_89 hl (by decide) rfl (fun ls hl => ?_)
    refine lv_lload hx hb dX0_sign_91 (lv_at hl 2 rfl) ?_
    refine lv_lconst (v := 0) hx hb dX0_sign_93 (by decide) ?_
    refine W.lcmp hx hb dX0_sign_94 ?_
    refine lv_if_eq (tgt := 105) hx hb dX0_sign_95 (by decide) (fun c_95 => ?_) (fun c_95 => ?_)
    · have hzz : dk_sr (nI P) (nI Q9) (nI G) (nI k9) = 0 ∨ dk_ss (nI P) (nI Q9) (nI G) (se (dk_n (nI j))) (nI k9) a = 0 := by
        left
        rw [hsr]
        exact (pk_lEQ (b := 0) (by omega) (by omega)).mp ((lg_cmp_eq _ _).mp c_95)
      obtain ⟨sa_105, hs_105⟩ := hE.2.2.2.2.1 (119, "r or s is 0") (by decide +kernel)
      refine vx_throwS (own := RX0) (cls := "java/lang/ArithmeticException") (text := "r or s is 0") (names := ["java/lang/RuntimeException", "java/lang/Exception"]) (ik := 117) (is := 119) (ic := 121) (rest := []) hx hb hl9 hown (by decide +kernel) (by decide +kernel) (hts (.classLink RX0 117 "java/lang/ArithmeticException") (by decide +kernel)) (hts (.initialized "java/lang/ArithmeticException") (by decide +kernel)) hs_105 (vx_hat (L := vx_atS RX0 121 "java/lang/ArithmeticException" ["java/lang/RuntimeException", "java/lang/Exception"]) (B := [.castable "java/lang/ArithmeticException" "java/lang/ArithmeticException", .declares (Bundle.initS "java/lang/RuntimeException"), .declares (Bundle.initS "java/lang/Exception"), .declares (Bundle.initS "java/lang/Throwable")]) (fun w hw => hts w ((by decide +kernel : ∀ w ∈ (vx_atS RX0 121 "java/lang/ArithmeticException" ["java/lang/RuntimeException", "java/lang/Exception"]).filter goodWord, w ∈ wsX0_sign) w hw)) (by decide +kernel) (vx_c (va_Nw.use rfl (hE.2.2.1 "java/lang/ArithmeticException" (by decide +kernel))) (vx_c (va_Nw.use rfl (hE.2.2.2.1 "java/lang/RuntimeException" (by decide +kernel))) (vx_c (va_Nw.use rfl (hE.2.2.2.1 "java/lang/Exception" (by decide +kernel))) (vx_c (va_Nw.use rfl (hE.2.2.2.1 "java/lang/Throwable" (by decide +kernel))) (vx_n)))))) (by decide +kernel) hE.1 hE.2.1 hS (hl.1.trans hml.symm) dX0_sign_105 dX0_sign_108 dX0_sign_109 dX0_sign_111 dX0_sign_114 (fun x hx => (hEx x hx).elim) (Nat.le_of_ble_eq_true rfl) (Nat.le_of_ble_eq_true rfl) (Nat.le_of_ble_eq_true rfl) (Nat.le_of_ble_eq_true rfl) hlocks (fun t ha hz hk => ?_) hS.2.2 (Nat.le_of_ble_eq_true rfl) (Nat.le_of_ble_eq_true rfl)
      exact ⟨(cp, cq, cs, cn, nI P, nI Q9, nI G, se, pu), trivial, ⟨⟨rfl, Or.inr (Or.inr ⟨rfl, by rw [dk_fsig, if_neg (fun q => q hhk), if_neg (fun q => q hex), if_pos hzz]⟩)⟩, hP.kept (fun k q hq => hk q.1 (hP k q hq).lt), va_K.moved ha hK, hD⟩, dk_F hS hz hk⟩
    · have hr0 : ¬ R9 = 0 := fun q => c_95 ((lg_cmp_eq _ _).mpr (by rw [q]; rfl))
      refine lv_lload hx hb dX0_sign_98 (lv_at hl 0 rfl) ?_
      refine lv_lconst (v := 0) hx hb dX0_sign_100 (by decide) ?_
      refine W.lcmp hx hb dX0_sign_101 ?_
      refine lv_if_ne (tgt := 115) hx hb dX0_sign_102 (by decide) (fun c_102 => ?_) (fun c_102 => ?_)
      · have hs0 : ¬ S9 = 0 := fun q => c_102 ((lg_cmp_eq _ _).mpr (by rw [q]; rfl))
        refine lv_lload hx hb dX0_sign_115 (lv_at hl 2 rfl) ?_
        refine lv_bipush (v := 32) hx hb dX0_sign_117 (by decide) ?_
        refine lv_lshl hx hb dX0_sign_119 rfl ?_
        refine lv_topl (fun v_119 ev_119 => ?_)
        have ev_119 : v_119 = lN (R9 * 4294967296) := ev_119.trans (wb_shl R9 (k := 32) (by decide))
        subst ev_119
        refine lv_lload hx hb dX0_sign_120 (lv_at hl 0 rfl) ?_
        refine lv_ladd hx hb dX0_sign_122 ?_
        refine lv_topl (fun v_122 ev_122 => ?_)
        have ev_122 : v_122 = lN (R9 * 4294967296 + S9) := ev_122.trans (lN_add _ _)
        subst ev_122
        refine W.widen (k := 2) (n := 12) (Nat.le_of_ble_eq_true rfl) (Nat.le_of_ble_eq_true rfl) ?_
        exact vx_ret (W.lret (v := (lN (R9 * 4294967296 + S9))) hx hb hr (fun t ht hW => ⟨⟨lN (R9 * 4294967296 + S9), (cp, cq, cs, cn, nI P, nI Q9, nI G, se, pu), rfl, ⟨rfl, by rw [dk_fsig, if_neg (fun q => q hhk), if_neg (fun q => q hex), hsr, hss, if_neg (fun q => q.elim hr0 hs0)]⟩, by rw [ht]; exact hP, va_K.moved hW.alike hK, hD⟩, hS.F ht⟩) hS.2.2 dX0_sign_123)
      · have hzz : dk_sr (nI P) (nI Q9) (nI G) (nI k9) = 0 ∨ dk_ss (nI P) (nI Q9) (nI G) (se (dk_n (nI j))) (nI k9) a = 0 := by
          right
          rw [hss]
          exact (pk_lEQ (b := 0) (by omega) (by omega)).mp ((lg_cmp_eq _ _).mp c_102)
        obtain ⟨sa_105, hs_105⟩ := hE.2.2.2.2.1 (119, "r or s is 0") (by decide +kernel)
        refine vx_throwS (own := RX0) (cls := "java/lang/ArithmeticException") (text := "r or s is 0") (names := ["java/lang/RuntimeException", "java/lang/Exception"]) (ik := 117) (is := 119) (ic := 121) (rest := []) hx hb hl9 hown (by decide +kernel) (by decide +kernel) (hts (.classLink RX0 117 "java/lang/ArithmeticException") (by decide +kernel)) (hts (.initialized "java/lang/ArithmeticException") (by decide +kernel)) hs_105 (vx_hat (L := vx_atS RX0 121 "java/lang/ArithmeticException" ["java/lang/RuntimeException", "java/lang/Exception"]) (B := [.castable "java/lang/ArithmeticException" "java/lang/ArithmeticException", .declares (Bundle.initS "java/lang/RuntimeException"), .declares (Bundle.initS "java/lang/Exception"), .declares (Bundle.initS "java/lang/Throwable")]) (fun w hw => hts w ((by decide +kernel : ∀ w ∈ (vx_atS RX0 121 "java/lang/ArithmeticException" ["java/lang/RuntimeException", "java/lang/Exception"]).filter goodWord, w ∈ wsX0_sign) w hw)) (by decide +kernel) (vx_c (va_Nw.use rfl (hE.2.2.1 "java/lang/ArithmeticException" (by decide +kernel))) (vx_c (va_Nw.use rfl (hE.2.2.2.1 "java/lang/RuntimeException" (by decide +kernel))) (vx_c (va_Nw.use rfl (hE.2.2.2.1 "java/lang/Exception" (by decide +kernel))) (vx_c (va_Nw.use rfl (hE.2.2.2.1 "java/lang/Throwable" (by decide +kernel))) (vx_n)))))) (by decide +kernel) hE.1 hE.2.1 hS (hl.1.trans hml.symm) dX0_sign_105 dX0_sign_108 dX0_sign_109 dX0_sign_111 dX0_sign_114 (fun x hx => (hEx x hx).elim) (Nat.le_of_ble_eq_true rfl) (Nat.le_of_ble_eq_true rfl) (Nat.le_of_ble_eq_true rfl) (Nat.le_of_ble_eq_true rfl) hlocks (fun t ha hz hk => ?_) hS.2.2 (Nat.le_of_ble_eq_true rfl) (Nat.le_of_ble_eq_true rfl)
        exact ⟨(cp, cq, cs, cn, nI P, nI Q9, nI G, se, pu), trivial, ⟨⟨rfl, Or.inr (Or.inr ⟨rfl, by rw [dk_fsig, if_neg (fun q => q hhk), if_neg (fun q => q hex), if_pos hzz]⟩)⟩, hP.kept (fun k q hq => hk q.1 (hP k q hq).lt), va_K.moved ha hK, hD⟩, dk_F hS hz hk⟩
  · have hnx : ¬ dk_ex k (nI Q9) := fun q => by
      rw [if_pos q] at c_11
      exact absurd c_11 (by decide)
    obtain ⟨sa_14, hs_14⟩ := hE.2.2.2.2.1 (108, "k is not 1 .. q - 1") (by decide +kernel)
    refine vx_throwS (own := RX0) (cls := "java/lang/IllegalArgumentException") (text := "k is not 1 .. q - 1") (names := ["java/lang/RuntimeException", "java/lang/Exception"]) (ik := 48) (is := 108) (ic := 52) (rest := []) hx hb hl9 hown (by decide +kernel) (by decide +kernel) (hts (.classLink RX0 48 "java/lang/IllegalArgumentException") (by decide +kernel)) (hts (.initialized "java/lang/IllegalArgumentException") (by decide +kernel)) hs_14 (vx_hat (L := vx_atS RX0 52 "java/lang/IllegalArgumentException" ["java/lang/RuntimeException", "java/lang/Exception"]) (B := [.castable "java/lang/IllegalArgumentException" "java/lang/IllegalArgumentException", .declares (Bundle.initS "java/lang/RuntimeException"), .declares (Bundle.initS "java/lang/Exception"), .declares (Bundle.initS "java/lang/Throwable")]) (fun w hw => hts w ((by decide +kernel : ∀ w ∈ (vx_atS RX0 52 "java/lang/IllegalArgumentException" ["java/lang/RuntimeException", "java/lang/Exception"]).filter goodWord, w ∈ wsX0_sign) w hw)) (by decide +kernel) (vx_c (va_Nw.use rfl (hE.2.2.1 "java/lang/IllegalArgumentException" (by decide +kernel))) (vx_c (va_Nw.use rfl (hE.2.2.2.1 "java/lang/RuntimeException" (by decide +kernel))) (vx_c (va_Nw.use rfl (hE.2.2.2.1 "java/lang/Exception" (by decide +kernel))) (vx_c (va_Nw.use rfl (hE.2.2.2.1 "java/lang/Throwable" (by decide +kernel))) (vx_n)))))) (by decide +kernel) hE.1 hE.2.1 hS (hl.1.trans hml.symm) dX0_sign_14 dX0_sign_17 dX0_sign_18 dX0_sign_20 dX0_sign_23 (fun x hx => (hEx x hx).elim) (Nat.le_of_ble_eq_true rfl) (Nat.le_of_ble_eq_true rfl) (Nat.le_of_ble_eq_true rfl) (Nat.le_of_ble_eq_true rfl) hlocks (fun t ha hz hk => ?_) hS.2.2 (Nat.le_of_ble_eq_true rfl) (Nat.le_of_ble_eq_true rfl)
    exact ⟨(cp, cq, cs, cn, nI P, nI Q9, nI G, se, pu), trivial, ⟨⟨rfl, Or.inr (Or.inl ⟨rfl, by rw [dk_fsig, if_neg (fun q => q hhk), if_pos hnx]⟩)⟩, hP.kept (fun k q hq => hk q.1 (hP k q hq).lt), va_K.moved ha hK, hD⟩, dk_F hS hz hk⟩

set_option maxHeartbeats 4000000 in
set_option maxRecDepth 100000 in
theorem dk_c_verify (l : Launch) (hl9 : l.stackTraces = false) (dC : Nat → ClassId) (dI : Nat → Nat → Nat) (h0 h1 h2 : Nat) (a1 a2 : ClassId) (cp cq : Int32) (cs : Int64) (cn dp dq dg : Int32) (se pu : Nat → Int32) (y : Int32) (a : Int64) (r k : Int32) (hI : dk_ID dp dq dg) (sz : Nat) : vx_Met l yX0_verify wsX0_verify ({ frames := 7, cells := 1, slots := 6, locals := 102 }) (va_Pc [.ref h0, .int y, .long a, .int r, .int k] (fun U => U.heap.size = sz ∧ va_P (dC, dI) vwCl [(h0, .inr (0, [.int cp, .int cq, .long cs, .int cn, .int dp, .int dq, .int dg, .ref h1, .ref h2])), (h1, .inl (a1, 8, .inl se)), (h2, .inl (a2, 8, .inl pu))] U.heap ∧ va_K (dC, dI) vwCl [(a1, .int), (a2, .int)] U ∧ va_D (fun _ => True) [(h0, .inr (0, [.int cp, .int cq, .long cs, .int cn, .int dp, .int dq, .int dg, .ref h1, .ref h2])), (h1, .inl (a1, 8, .inl se)), (h2, .inl (a2, 8, .inl pu))] ∧ dk_E (va_A [(h0, .inr (0, [.int cp, .int cq, .long cs, .int cn, .int dp, .int dq, .int dg, .ref h1, .ref h2])), (h1, .inl (a1, 8, .inl se)), (h2, .inl (a2, 8, .inl pu))] sz) U U.heap)) (va_Qi (fun (r9 : Int32) (u9 : dk_S) => u9 = (cp, cq, cs, cn, dp, dq, dg, se, pu) ∧ dk_fver dp dq dg y a r k = (0, r9)) (dk_B dC dI (va_A [(h0, .inr (0, [.int cp, .int cq, .long cs, .int cn, .int dp, .int dq, .int dg, .ref h1, .ref h2])), (h1, .inl (a1, 8, .inl se)), (h2, .inl (a2, 8, .inl pu))] sz) h0 h1 h2 a1 a2) (va_A [(h0, .inr (0, [.int cp, .int cq, .long cs, .int cn, .int dp, .int dq, .int dg, .ref h1, .ref h2])), (h1, .inl (a1, 8, .inl se)), (h2, .inl (a2, 8, .inl pu))] sz)) (vx_X (fun _ : dk_S => True) (fun E9 u9 t9 => (u9 = (cp, cq, cs, cn, dp, dq, dg, se, pu) ∧ E9 = "java/lang/IllegalStateException" ∧ dk_fver dp dq dg y a r k = (1, 0)) ∧ dk_B dC dI (va_A [(h0, .inr (0, [.int cp, .int cq, .long cs, .int cn, .int dp, .int dq, .int dg, .ref h1, .ref h2])), (h1, .inl (a1, 8, .inl se)), (h2, .inl (a2, 8, .inl pu))] sz) h0 h1 h2 a1 a2 u9 t9) (va_A [(h0, .inr (0, [.int cp, .int cq, .long cs, .int cn, .int dp, .int dq, .int dg, .ref h1, .ref h2])), (h1, .inl (a1, 8, .inl se)), (h2, .inl (a2, 8, .inl pu))] sz)) 1 6 (va_A [(h0, .inr (0, [.int cp, .int cq, .long cs, .int cn, .int dp, .int dq, .int dg, .ref h1, .ref h2])), (h1, .inl (a1, 8, .inl se)), (h2, .inl (a2, 8, .inl pu))] sz) := by
  refine vx_ofW (cc := cX0_verify) (maxL := 12) (ret := (some .boolean)) (by decide) rfl ?_
  intro p e s m args below meth c s₁ B hml hEx hv
  obtain ⟨rfl, hsz, hP, hK, hD0, hE⟩ := hv
  have hx := B.exec
  have hb := B.bytes
  have hr := B.returns
  have hts := atoms_spec (ws := wsX0_verify) B.pre
  have hown : s.vm.findClass RX0 = some m.cls := findClass_of_methodNamed B.named
  have hlocks := B.notSynchronized
  subst hsz
  have hD := hD0.self (sz := s.heap.size)
  generalize hAe : va_A [(h0, .inr (0, [.int cp, .int cq, .long cs, .int cn, .int dp, .int dq, .int dg, .ref h1, .ref h2])), (h1, .inl (a1, 8, .inl se)), (h2, .inl (a2, 8, .inl pu))] s.heap.size = A at hD hE ⊢
  have hA : ∀ q : Nat, s.heap.size ≤ q → A q := fun q h => by rw [← hAe]; exact Or.inr h
  have hS : va_S A s.heap s.heap [] := va_S.rf
  have hl := lv_entry ([.ref h0, .int y, .long a, .int r, .int k]) (n := 12) (Nat.le_of_ble_eq_true rfl)
  rw [lg_entry_eq]
  generalize (lg_sl ([.ref h0, .int y, .long a, .int r, .int k]) ++ List.replicate (12 - (lg_sl ([.ref h0, .int y, .long a, .int r, .int k])).length) Slot.unset).toArray = ls at hl ⊢
  have hl : lv_has ls 12 [(0, .ref h0), (1, .int y), (2, .long a), (4, .int r), (5, .int k)] := hl
  refine lv_aload_n hx hb dX0_verify_0 rfl (lv_at hl 0 rfl) ?_
  have hPc := hP.sub (ws' := [(h0, .inr (0, [.int cp, .int cq, .long cs, .int cn, .int dp, .int dq, .int dg, .ref h1, .ref h2])), (h1, .inl (a1, 8, .inl se)), (h2, .inl (a2, 8, .inl pu))]) [0, 1, 2] rfl
  have hDc := hD.sub (ws' := [(h0, .inr (0, [.int cp, .int cq, .long cs, .int cn, .int dp, .int dq, .int dg, .ref h1, .ref h2])), (h1, .inl (a1, 8, .inl se)), (h2, .inl (a2, 8, .inl pu))]) [0, 1, 2] (by decide) rfl
  have hKc := hK.sub (tys' := [(a1, .int), (a2, .int)]) [0, 1] rfl
  have hFc := va_free (wc := [(h0, .inr (0, [.int cp, .int cq, .long cs, .int cn, .int dp, .int dq, .int dg, .ref h1, .ref h2])), (h1, .inl (a1, 8, .inl se)), (h2, .inl (a2, 8, .inl pu))]) hD hS hA [0, 1, 2] rfl
  refine vx_callv (vx_runV (As := []) (rest := []) ⟨hx, hb, hml, hown, hts⟩ (dk_c_requireDomain l hl9 dC dI h0 h1 h2 a1 a2 cp cq cs cn dp dq dg se pu  _) (cwV 0 hts gX0_verify_X0_requireDomain rfl rfl rfl (by decide +kernel) ⟨Nat.le_of_ble_eq_true rfl, Nat.le_of_ble_eq_true rfl⟩) ⟨fun a U g mk q => by obtain ⟨q0, q1, qP, qK, qD, qE⟩ := q; exact ⟨q0, q1, qP, va_K.moved (u := U) (U := U.calling g mk a) (Vm.Alike.refl U.vm) qK, qD, qE.blind⟩, va_recv hKc hPc (ci := 0) (q0 := 0) rfl rfl, fun U hU hW => ⟨rfl, by rw [hU], by rw [hU]; exact hPc, va_K.moved hW.alike hKc, hDc.weaken (fun _ _ _ _ => trivial), hE.go hS hFc hU hW⟩⟩ rfl rfl hl.1 rfl (lv_room (Nat.le_of_ble_eq_true rfl)) dX0_verify_1 ⟨Nat.le_of_ble_eq_true rfl, Nat.le_of_ble_eq_true rfl⟩) hS (fun q _ h => hFc q h) hFc (fun q _ h => hFc q h) (fun E9 ce q9 u t H1 locs ht hvm hw hB hz1 hk1 hS hce hcv hcl => ?_) (fun u t H1 locs ht hvm hw hB hz1 hk1 hS => ?_)
  · obtain ⟨hEc, hB⟩ := hB
    obtain ⟨rfl, hE9, hnd⟩ := hEc
    obtain ⟨hP1, hK1, hD1⟩ := hB
    rw [ht] at hP1
    have hK1 := va_K.moved hvm.symm hK1
    obtain ⟨hP, hD⟩ := va_join (wr := []) (w1 := [(h0, .inr (0, [.int cp, .int cq, .long cs, .int cn, .int dp, .int dq, .int dg, .ref h1, .ref h2])), (h1, .inl (a1, 8, .inl se)), (h2, .inl (a2, 8, .inl pu))]) hP hD [0, 1, 2] [] rfl rfl (by decide) (by decide) hk1 hFc hP1 hD1
    have hK := (hK.sub (tys' := []) [] rfl).app hK1
    generalize H1 = H at hP hS hce ⊢
    have hP : va_P (dC, dI) vwCl [(h0, .inr (0, [.int cp, .int cq, .long cs, .int cn, .int dp, .int dq, .int dg, .ref h1, .ref h2])), (h1, .inl (a1, 8, .inl se)), (h2, .inl (a2, 8, .inl pu))] H := hP
    have hD : va_D A [(h0, .inr (0, [.int cp, .int cq, .long cs, .int cn, .int dp, .int dq, .int dg, .ref h1, .ref h2])), (h1, .inl (a1, 8, .inl se)), (h2, .inl (a2, 8, .inl pu))] := hD
    have hK : va_K (dC, dI) vwCl [(a1, .int), (a2, .int)] s := hK
    exact vx_out (E := E9) (fun x hx => (hEx x hx).elim) hlocks hce hcv hcl (fun t ht ha => ⟨(cp, cq, cs, cn, dp, dq, dg, se, pu), trivial, ⟨⟨rfl, hE9, by rw [dk_fver, if_pos hnd]⟩, by rw [ht]; exact hP, va_K.moved ha hK, hD⟩, hS.F ht⟩) hS.2.2 (Nat.le_of_ble_eq_true rfl) (Nat.le_of_ble_eq_true rfl)
  obtain ⟨rfl, hdp⟩ := hw
  obtain ⟨P, Q9, G, hP9, hQ9, hdom, rfl, rfl, rfl⟩ := hI.resolve_left (fun q => hdp q.1)
  obtain ⟨hs1, hs2, hs3, hs4, hs5, hs6⟩ := dk_dom_sz hP9 hdom
  obtain ⟨hP1, hK1, hD1⟩ := hB
  rw [ht] at hP1
  have hK1 := va_K.moved hvm.symm hK1
  obtain ⟨hP, hD⟩ := va_join (wr := []) (w1 := [(h0, .inr (0, [.int cp, .int cq, .long cs, .int cn, .int (nI P), .int (nI Q9), .int (nI G), .ref h1, .ref h2])), (h1, .inl (a1, 8, .inl se)), (h2, .inl (a2, 8, .inl pu))]) hP hD [0, 1, 2] [] rfl rfl (by decide) (by decide) hk1 hFc hP1 hD1
  have hK := (hK.sub (tys' := []) [] rfl).app hK1
  generalize H1 = H at hP hS ⊢
  have hP : va_P (dC, dI) vwCl [(h0, .inr (0, [.int cp, .int cq, .long cs, .int cn, .int (nI P), .int (nI Q9), .int (nI G), .ref h1, .ref h2])), (h1, .inl (a1, 8, .inl se)), (h2, .inl (a2, 8, .inl pu))] H := hP
  have hD : va_D A [(h0, .inr (0, [.int cp, .int cq, .long cs, .int cn, .int (nI P), .int (nI Q9), .int (nI G), .ref h1, .ref h2])), (h1, .inl (a1, 8, .inl se)), (h2, .inl (a2, 8, .inl pu))] := hD
  have hK : va_K (dC, dI) vwCl [(a1, .int), (a2, .int)] s := hK
  refine lv_iload_n hx hb dX0_verify_4 rfl (lv_at hl 1 rfl) ?_
  refine lv_iconst (v := 1) hx hb dX0_verify_5 (by decide) ?_
  refine lv_icmp_lt (tgt := 35) hx hb dX0_verify_6 (by decide) (fun c_6 => ?_) (fun c_6 => ?_)
  · have hno : ¬ ((1 ≤ y ∧ y < nI P) ∧ dk_ex r (nI Q9) ∧ dk_ex k (nI Q9) ∧ dk_n r = dk_vv (nI P) (nI Q9) (nI G) y a r k) := fun q => dk_not_lt.mpr q.1.1 c_6
    refine lv_iconst (v := 0) hx hb dX0_verify_35 (by decide) ?_
    exact vx_ret (W.zret (v := 0) (ty := .boolean) hx hb hr rfl (fun t ht hW => ⟨⟨0, (cp, cq, cs, cn, nI P, nI Q9, nI G, se, pu), rfl, ⟨rfl, by rw [dk_fver, if_neg hdp, if_neg hno]⟩, by rw [ht]; exact hP, va_K.moved hW.alike hK, hD⟩, hS.F ht⟩) hS.2.2 dX0_verify_36)
  · refine lv_iload_n hx hb dX0_verify_9 rfl (lv_at hl 1 rfl) ?_
    refine lv_aload_n hx hb dX0_verify_10 rfl (lv_at hl 0 rfl) ?_
    refine va_get (D := (dC, dI)) (ci := 0) (v := .int (nI P)) (C := RX0) (T := TX0) (N := 9) hx hb hts (by decide +kernel) hown hK hP 0 rfl rfl 4 (by decide) (hts (.fieldLink RX0 66 "DomainKeys" "domainP" "I") (by decide +kernel)) (fun _ h9 => h9) rfl dX0_verify_11 ?_
    refine lv_icmp_ge (tgt := 35) hx hb dX0_verify_14 (by decide) (fun c_14 => ?_) (fun c_14 => ?_)
    · have hno : ¬ ((1 ≤ y ∧ y < nI P) ∧ dk_ex r (nI Q9) ∧ dk_ex k (nI Q9) ∧ dk_n r = dk_vv (nI P) (nI Q9) (nI G) y a r k) := fun q => dk_not_lt.mpr c_14 q.1.2
      refine lv_iconst (v := 0) hx hb dX0_verify_35 (by decide) ?_
      exact vx_ret (W.zret (v := 0) (ty := .boolean) hx hb hr rfl (fun t ht hW => ⟨⟨0, (cp, cq, cs, cn, nI P, nI Q9, nI G, se, pu), rfl, ⟨rfl, by rw [dk_fver, if_neg hdp, if_neg hno]⟩, by rw [ht]; exact hP, va_K.moved hW.alike hK, hD⟩, hS.F ht⟩) hS.2.2 dX0_verify_36)
    · refine lv_aload_n hx hb dX0_verify_17 rfl (lv_at hl 0 rfl) ?_
      refine lv_iload hx hb dX0_verify_18 (lv_at hl 3 rfl) ?_
      have hPc := hP.sub (ws' := [(h0, .inr (0, [.int cp, .int cq, .long cs, .int cn, .int (nI P), .int (nI Q9), .int (nI G), .ref h1, .ref h2])), (h1, .inl (a1, 8, .inl se)), (h2, .inl (a2, 8, .inl pu))]) [0, 1, 2] rfl
      have hKc := hK.sub (tys' := [(a1, .int), (a2, .int)]) [0, 1] rfl
      refine vp_callSi (W.runV (As := [.int r]) (rest := []) ⟨hx, hb, hml, hown, hts⟩ (dk_c_isExponent l dC dI h0 h1 h2 a1 a2 cp cq cs cn (nI P) (nI Q9) (nI G) se pu r) (cwV 1 hts gX0_verify_X0_isExponent rfl rfl rfl (by decide +kernel) ⟨Nat.le_of_ble_eq_true rfl, Nat.le_of_ble_eq_true rfl⟩) ⟨fun a U g mk q => by obtain ⟨q0, qP, qK⟩ := q; exact ⟨q0, qP, va_K.moved (u := U) (U := U.calling g mk a) (Vm.Alike.refl U.vm) qK⟩, va_recv hKc hPc (ci := 0) (q0 := 0) rfl rfl, fun U hU hW => ⟨rfl, by rw [hU]; exact hPc, va_K.moved hW.alike hKc⟩⟩ rfl rfl hl.1 rfl (lv_room (Nat.le_of_ble_eq_true rfl)) dX0_verify_20 ⟨Nat.le_of_ble_eq_true rfl, Nat.le_of_ble_eq_true rfl⟩) (fun r_20 hr_20 => ?_)
      subst hr_20
      refine lv_if_eq (tgt := 35) hx hb dX0_verify_23 (by decide) (fun c_23 => ?_) (fun c_23 => ?_)
      · have hno : ¬ ((1 ≤ y ∧ y < nI P) ∧ dk_ex r (nI Q9) ∧ dk_ex k (nI Q9) ∧ dk_n r = dk_vv (nI P) (nI Q9) (nI G) y a r k) := fun q => by
          rw [if_pos q.2.1] at c_23
          exact absurd c_23 (by decide)
        refine lv_iconst (v := 0) hx hb dX0_verify_35 (by decide) ?_
        exact vx_ret (W.zret (v := 0) (ty := .boolean) hx hb hr rfl (fun t ht hW => ⟨⟨0, (cp, cq, cs, cn, nI P, nI Q9, nI G, se, pu), rfl, ⟨rfl, by rw [dk_fver, if_neg hdp, if_neg hno]⟩, by rw [ht]; exact hP, va_K.moved hW.alike hK, hD⟩, hS.F ht⟩) hS.2.2 dX0_verify_36)
      · refine lv_aload_n hx hb dX0_verify_26 rfl (lv_at hl 0 rfl) ?_
        refine lv_iload hx hb dX0_verify_27 (lv_at hl 4 rfl) ?_
        have hPc := hP.sub (ws' := [(h0, .inr (0, [.int cp, .int cq, .long cs, .int cn, .int (nI P), .int (nI Q9), .int (nI G), .ref h1, .ref h2])), (h1, .inl (a1, 8, .inl se)), (h2, .inl (a2, 8, .inl pu))]) [0, 1, 2] rfl
        have hKc := hK.sub (tys' := [(a1, .int), (a2, .int)]) [0, 1] rfl
        refine vp_callSi (W.runV (As := [.int k]) (rest := []) ⟨hx, hb, hml, hown, hts⟩ (dk_c_isExponent l dC dI h0 h1 h2 a1 a2 cp cq cs cn (nI P) (nI Q9) (nI G) se pu k) (cwV 1 hts gX0_verify_X0_isExponent rfl rfl rfl (by decide +kernel) ⟨Nat.le_of_ble_eq_true rfl, Nat.le_of_ble_eq_true rfl⟩) ⟨fun a U g mk q => by obtain ⟨q0, qP, qK⟩ := q; exact ⟨q0, qP, va_K.moved (u := U) (U := U.calling g mk a) (Vm.Alike.refl U.vm) qK⟩, va_recv hKc hPc (ci := 0) (q0 := 0) rfl rfl, fun U hU hW => ⟨rfl, by rw [hU]; exact hPc, va_K.moved hW.alike hKc⟩⟩ rfl rfl hl.1 rfl (lv_room (Nat.le_of_ble_eq_true rfl)) dX0_verify_29 ⟨Nat.le_of_ble_eq_true rfl, Nat.le_of_ble_eq_true rfl⟩) (fun r_29 hr_29 => ?_)
        subst hr_29
        refine lv_if_ne (tgt := 37) hx hb dX0_verify_32 (by decide) (fun c_32 => ?_) (fun c_32 => ?_)
        · have hexr : dk_ex r (nI Q9) := by
            by_cases q : dk_ex r (nI Q9)
            · exact q
            · exact absurd (if_neg q) c_23
          have hexs : dk_ex k (nI Q9) := by
            by_cases q : dk_ex k (nI Q9)
            · exact q
            · exact absurd (if_neg q) c_32
          have hyy : 1 ≤ y ∧ y < nI P := ⟨dk_not_lt.mp c_6, dk_not_le.mp c_14⟩
          obtain ⟨y9, hy1, hy2, rfl⟩ := dk_ex_of hP9 hyy
          obtain ⟨r8, hr81, hr82, rfl⟩ := dk_ex_of hQ9 hexr
          obtain ⟨k9, hk91, hk92, rfl⟩ := dk_ex_of hQ9 hexs
          have hzl := dk_z_lt a
          obtain ⟨W8, hW8⟩ : ∃ W8 : Nat, W8 = k9 ^ (Q9 - 2) % Q9 := ⟨_, rfl⟩
          have hWlt : W8 < Q9 := by rw [hW8]; exact Nat.mod_lt _ (by omega)
          have hzw : dk_z a * W8 ≤ 32768 * 1073741824 := Nat.mul_le_mul (by omega) (by omega)
          have hrw9 : r8 * W8 ≤ 1073741824 * 1073741824 := Nat.mul_le_mul (by omega) (by omega)
          obtain ⟨A8, hA8⟩ : ∃ A8 : Nat, A8 = dk_z a * W8 % Q9 := ⟨_, rfl⟩
          have hAlt : A8 < Q9 := by rw [hA8]; exact Nat.mod_lt _ (by omega)
          obtain ⟨B8, hB8⟩ : ∃ B8 : Nat, B8 = r8 * W8 % Q9 := ⟨_, rfl⟩
          have hBlt : B8 < Q9 := by rw [hB8]; exact Nat.mod_lt _ (by omega)
          obtain ⟨C8, hC8⟩ : ∃ C8 : Nat, C8 = G ^ A8 % P := ⟨_, rfl⟩
          have hClt : C8 < P := by rw [hC8]; exact Nat.mod_lt _ (by omega)
          obtain ⟨D8, hD8⟩ : ∃ D8 : Nat, D8 = y9 ^ B8 % P := ⟨_, rfl⟩
          have hDlt : D8 < P := by rw [hD8]; exact Nat.mod_lt _ (by omega)
          have hcd : C8 * D8 ≤ 2147483648 * 2147483648 := Nat.mul_le_mul (by omega) (by omega)
          have hpl : C8 * D8 % P < P := Nat.mod_lt _ (by omega)
          have hvl : C8 * D8 % P % Q9 < Q9 := Nat.mod_lt _ (by omega)
          have hvw : dk_vw (nI Q9) (nI k9) = W8 := by rw [dk_vw, dk_n_nI (by omega), dk_n_nI hQ9, ← hW8]
          have hvv : dk_vv (nI P) (nI Q9) (nI G) (nI y9) a (nI r8) (nI k9) = C8 * D8 % P % Q9 := by rw [dk_vv, hvw, dk_n_nI (show G < 2147483648 by omega), dk_n_nI (show y9 < 2147483648 by omega), dk_n_nI (show r8 < 2147483648 by omega), dk_n_nI hP9, dk_n_nI hQ9, ← hA8, ← hB8, ← hC8, ← hD8]
          have hrn : dk_n (nI r8) = r8 := dk_n_nI (by omega)
          refine lv_iload hx hb dX0_verify_37 (lv_at hl 4 rfl) ?_
          refine lv_aload_n hx hb dX0_verify_39 rfl (lv_at hl 0 rfl) ?_
          refine va_get (D := (dC, dI)) (ci := 0) (v := .int (nI Q9)) (C := RX0) (T := TX0) (N := 9) hx hb hts (by decide +kernel) hown hK hP 0 rfl rfl 5 (by decide) (hts (.fieldLink RX0 69 "DomainKeys" "domainQ" "I") (by decide +kernel)) (fun _ h9 => h9) rfl dX0_verify_40 ?_
          refine vp_callSi (W.runS (As := [.int (nI k9), .int (nI Q9)]) (rest := []) ⟨hx, hb, hml, hown, hts⟩ (dk_c_inverse l k9 Q9 (by omega) (by omega) hQ9) (va_cwS 2 hts gX0_verify_X0_inverse rfl rfl rfl (by decide +kernel) ⟨Nat.le_of_ble_eq_true rfl, Nat.le_of_ble_eq_true rfl⟩) ⟨fun _ _ _ _ q9 => q9, fun U hU hW => ⟨rfl, trivial⟩⟩ rfl rfl hl.1 rfl (lv_room (Nat.le_of_ble_eq_true rfl)) dX0_verify_43 ⟨Nat.le_of_ble_eq_true rfl, Nat.le_of_ble_eq_true rfl⟩) (fun r_43 hr_43 => ?_)
          subst hr_43
          refine lv_i2l hx hb dX0_verify_46 rfl ?_
          refine lv_topl (fun v_46 ev_46 => ?_)
          have ev_46 : v_46 = lN W8 := ev_46.trans ((nI_l (by omega)).trans (by rw [hW8]))
          subst ev_46
          refine lv_lstore (lv' := [(6, .long (lN W8)), (0, .ref h0), (1, .int (nI y9)), (2, .long a), (4, .int (nI r8)), (5, .int (nI k9))]) hx hb dX0_verify_47 hl (by decide) rfl (fun ls hl => ?_)
          refine lv_aload_n hx hb dX0_verify_49 rfl (lv_at hl 1 rfl) ?_
          refine lv_lload_n hx hb dX0_verify_50 rfl (lv_at hl 3 rfl) ?_
          refine vp_callSi (W.runV (As := [.long a]) (rest := []) ⟨hx, hb, hml, hown, hts⟩ (dk_c_digest l h0 a) (cwV 1 hts gX0_verify_X0_digest rfl rfl rfl (by decide +kernel) ⟨Nat.le_of_ble_eq_true rfl, Nat.le_of_ble_eq_true rfl⟩) ⟨fun _ _ _ _ q9 => q9, va_recv hK hP (ci := 0) (q0 := 0) rfl rfl, fun U hU hW => ⟨rfl, trivial⟩⟩ rfl rfl hl.1 rfl (lv_room (Nat.le_of_ble_eq_true rfl)) dX0_verify_51 ⟨Nat.le_of_ble_eq_true rfl, Nat.le_of_ble_eq_true rfl⟩) (fun r_51 hr_51 => ?_)
          subst hr_51
          refine lv_i2l hx hb dX0_verify_54 rfl ?_
          refine lv_topl (fun v_54 ev_54 => ?_)
          have ev_54 : v_54 = lN (dk_z a) := ev_54.trans (nI_l (by omega))
          subst ev_54
          refine lv_lload hx hb dX0_verify_55 (lv_at hl 0 rfl) ?_
          refine lv_lmul hx hb dX0_verify_57 ?_
          refine lv_topl (fun v_57 ev_57 => ?_)
          have ev_57 : v_57 = lN (dk_z a * W8) := ev_57.trans (lN_mul _ _)
          subst ev_57
          refine lv_aload_n hx hb dX0_verify_58 rfl (lv_at hl 1 rfl) ?_
          refine va_get (D := (dC, dI)) (ci := 0) (v := .int (nI Q9)) (C := RX0) (T := TX0) (N := 9) hx hb hts (by decide +kernel) hown hK hP 0 rfl rfl 5 (by decide) (hts (.fieldLink RX0 69 "DomainKeys" "domainQ" "I") (by decide +kernel)) (fun _ h9 => h9) rfl dX0_verify_59 ?_
          refine lv_i2l hx hb dX0_verify_62 rfl ?_
          refine lv_topl (fun v_62 ev_62 => ?_)
          have ev_62 : v_62 = lN Q9 := ev_62.trans (nI_l hQ9)
          subst ev_62
          refine lv_lrem hx hb dX0_verify_63 (dk_lne (by omega) (by omega)) ?_
          refine lv_topl (fun v_63 ev_63 => ?_)
          have ev_63 : v_63 = lN A8 := ev_63.trans ((pk_lRem (by omega) (by omega) (by omega)).trans (by rw [hA8]))
          subst ev_63
          refine lv_l2i hx hb dX0_verify_64 rfl ?_
          refine lv_topi (fun v_64 ev_64 => ?_)
          have ev_64 : v_64 = nI A8 := ev_64.trans (lN_i _)
          subst ev_64
          refine lv_istore (lv' := [(8, .int (nI A8)), (6, .long (lN W8)), (0, .ref h0), (1, .int (nI y9)), (2, .long a), (4, .int (nI r8)), (5, .int (nI k9))]) hx hb dX0_verify_65 hl (by decide) rfl (fun ls hl => ?_)
          refine lv_iload hx hb dX0_verify_67 (lv_at hl 5 rfl) ?_
          refine lv_i2l hx hb dX0_verify_69 rfl ?_
          refine lv_topl (fun v_69 ev_69 => ?_)
          have ev_69 : v_69 = lN r8 := ev_69.trans (nI_l (by omega))
          subst ev_69
          refine lv_lload hx hb dX0_verify_70 (lv_at hl 1 rfl) ?_
          refine lv_lmul hx hb dX0_verify_72 ?_
          refine lv_topl (fun v_72 ev_72 => ?_)
          have ev_72 : v_72 = lN (r8 * W8) := ev_72.trans (lN_mul _ _)
          subst ev_72
          refine lv_aload_n hx hb dX0_verify_73 rfl (lv_at hl 2 rfl) ?_
          refine va_get (D := (dC, dI)) (ci := 0) (v := .int (nI Q9)) (C := RX0) (T := TX0) (N := 9) hx hb hts (by decide +kernel) hown hK hP 0 rfl rfl 5 (by decide) (hts (.fieldLink RX0 69 "DomainKeys" "domainQ" "I") (by decide +kernel)) (fun _ h9 => h9) rfl dX0_verify_74 ?_
          refine lv_i2l hx hb dX0_verify_77 rfl ?_
          refine lv_topl (fun v_77 ev_77 => ?_)
          have ev_77 : v_77 = lN Q9 := ev_77.trans (nI_l hQ9)
          subst ev_77
          refine lv_lrem hx hb dX0_verify_78 (dk_lne (by omega) (by omega)) ?_
          refine lv_topl (fun v_78 ev_78 => ?_)
          have ev_78 : v_78 = lN B8 := ev_78.trans ((pk_lRem (by omega) (by omega) (by omega)).trans (by rw [hB8]))
          subst ev_78
          refine lv_l2i hx hb dX0_verify_79 rfl ?_
          refine lv_topi (fun v_79 ev_79 => ?_)
          have ev_79 : v_79 = nI B8 := ev_79.trans (lN_i _)
          subst ev_79
          refine lv_istore (lv' := [(9, .int (nI B8)), (8, .int (nI A8)), (6, .long (lN W8)), (0, .ref h0), (1, .int (nI y9)), (2, .long a), (4, .int (nI r8)), (5, .int (nI k9))]) hx hb dX0_verify_80 hl (by decide) rfl (fun ls hl => ?_)
          refine lv_aload_n hx hb dX0_verify_82 rfl (lv_at hl 3 rfl) ?_
          refine va_get (D := (dC, dI)) (ci := 0) (v := .int (nI G)) (C := RX0) (T := TX0) (N := 9) hx hb hts (by decide +kernel) hown hK hP 0 rfl rfl 6 (by decide) (hts (.fieldLink RX0 72 "DomainKeys" "domainG" "I") (by decide +kernel)) (fun _ h9 => h9) rfl dX0_verify_83 ?_
          refine lv_iload hx hb dX0_verify_86 (lv_at hl 1 rfl) ?_
          refine lv_aload_n hx hb dX0_verify_88 rfl (lv_at hl 3 rfl) ?_
          refine va_get (D := (dC, dI)) (ci := 0) (v := .int (nI P)) (C := RX0) (T := TX0) (N := 9) hx hb hts (by decide +kernel) hown hK hP 0 rfl rfl 4 (by decide) (hts (.fieldLink RX0 66 "DomainKeys" "domainP" "I") (by decide +kernel)) (fun _ h9 => h9) rfl dX0_verify_89 ?_
          refine vp_callSi (W.runS (As := [.int (nI G), .int (nI A8), .int (nI P)]) (rest := []) ⟨hx, hb, hml, hown, hts⟩ (dk_c_power l G A8 P (by omega) (by omega) (by omega) hP9) (va_cwS 3 hts gX0_verify_X0_power rfl rfl rfl (by decide +kernel) ⟨Nat.le_of_ble_eq_true rfl, Nat.le_of_ble_eq_true rfl⟩) ⟨fun _ _ _ _ q9 => q9, fun U hU hW => ⟨rfl, trivial⟩⟩ rfl rfl hl.1 rfl (lv_room (Nat.le_of_ble_eq_true rfl)) dX0_verify_92 ⟨Nat.le_of_ble_eq_true rfl, Nat.le_of_ble_eq_true rfl⟩) (fun r_92 hr_92 => ?_)
          subst hr_92
          refine lv_i2l hx hb dX0_verify_95 rfl ?_
          refine lv_topl (fun v_95 ev_95 => ?_)
          have ev_95 : v_95 = lN C8 := ev_95.trans ((nI_l (by omega)).trans (by rw [hC8]))
          subst ev_95
          refine lv_iload_n hx hb dX0_verify_96 rfl (lv_at hl 4 rfl) ?_
          refine lv_iload hx hb dX0_verify_97 (lv_at hl 0 rfl) ?_
          refine lv_aload_n hx hb dX0_verify_99 rfl (lv_at hl 3 rfl) ?_
          refine va_get (D := (dC, dI)) (ci := 0) (v := .int (nI P)) (C := RX0) (T := TX0) (N := 9) hx hb hts (by decide +kernel) hown hK hP 0 rfl rfl 4 (by decide) (hts (.fieldLink RX0 66 "DomainKeys" "domainP" "I") (by decide +kernel)) (fun _ h9 => h9) rfl dX0_verify_100 ?_
          refine vp_callSi (W.runS (As := [.int (nI y9), .int (nI B8), .int (nI P)]) (rest := [.long (lN C8)]) ⟨hx, hb, hml, hown, hts⟩ (dk_c_power l y9 B8 P (by omega) (by omega) (by omega) hP9) (va_cwS 3 hts gX0_verify_X0_power rfl rfl rfl (by decide +kernel) ⟨Nat.le_of_ble_eq_true rfl, Nat.le_of_ble_eq_true rfl⟩) ⟨fun _ _ _ _ q9 => q9, fun U hU hW => ⟨rfl, trivial⟩⟩ rfl rfl hl.1 rfl (lv_room (Nat.le_of_ble_eq_true rfl)) dX0_verify_103 ⟨Nat.le_of_ble_eq_true rfl, Nat.le_of_ble_eq_true rfl⟩) (fun r_103 hr_103 => ?_)
          subst hr_103
          refine lv_i2l hx hb dX0_verify_106 rfl ?_
          refine lv_topl (fun v_106 ev_106 => ?_)
          have ev_106 : v_106 = lN D8 := ev_106.trans ((nI_l (by omega)).trans (by rw [hD8]))
          subst ev_106
          refine lv_lmul hx hb dX0_verify_107 ?_
          refine lv_topl (fun v_107 ev_107 => ?_)
          have ev_107 : v_107 = lN (C8 * D8) := ev_107.trans (lN_mul _ _)
          subst ev_107
          refine lv_aload_n hx hb dX0_verify_108 rfl (lv_at hl 3 rfl) ?_
          refine va_get (D := (dC, dI)) (ci := 0) (v := .int (nI P)) (C := RX0) (T := TX0) (N := 9) hx hb hts (by decide +kernel) hown hK hP 0 rfl rfl 4 (by decide) (hts (.fieldLink RX0 66 "DomainKeys" "domainP" "I") (by decide +kernel)) (fun _ h9 => h9) rfl dX0_verify_109 ?_
          refine lv_i2l hx hb dX0_verify_112 rfl ?_
          refine lv_topl (fun v_112 ev_112 => ?_)
          have ev_112 : v_112 = lN P := ev_112.trans (nI_l hP9)
          subst ev_112
          refine lv_lrem hx hb dX0_verify_113 (dk_lne (by omega) (by omega)) ?_
          refine lv_topl (fun v_113 ev_113 => ?_)
          have ev_113 : v_113 = lN (C8 * D8 % P) := ev_113.trans (pk_lRem (by omega) (by omega) (by omega))
          subst ev_113
          refine lv_lstore (lv' := [(10, .long (lN (C8 * D8 % P))), (9, .int (nI B8)), (8, .int (nI A8)), (6, .long (lN W8)), (0, .ref h0), (1, .int (nI y9)), (2, .long a), (4, .int (nI r8)), (5, .int (nI k9))]) hx hb dX0_verify_114 hl (by decide) rfl (fun ls hl => ?_)
          refine lv_iload hx hb dX0_verify_116 (lv_at hl 7 rfl) ?_
          refine lv_i2l hx hb dX0_verify_118 rfl ?_
          refine lv_topl (fun v_118 ev_118 => ?_)
          have ev_118 : v_118 = lN r8 := ev_118.trans (nI_l (by omega))
          subst ev_118
          refine lv_lload hx hb dX0_verify_119 (lv_at hl 0 rfl) ?_
          refine lv_aload_n hx hb dX0_verify_121 rfl (lv_at hl 4 rfl) ?_
          refine va_get (D := (dC, dI)) (ci := 0) (v := .int (nI Q9)) (C := RX0) (T := TX0) (N := 9) hx hb hts (by decide +kernel) hown hK hP 0 rfl rfl 5 (by decide) (hts (.fieldLink RX0 69 "DomainKeys" "domainQ" "I") (by decide +kernel)) (fun _ h9 => h9) rfl dX0_verify_122 ?_
          refine lv_i2l hx hb dX0_verify_125 rfl ?_
          refine lv_topl (fun v_125 ev_125 => ?_)
          have ev_125 : v_125 = lN Q9 := ev_125.trans (nI_l hQ9)
          subst ev_125
          refine lv_lrem hx hb dX0_verify_126 (dk_lne (by omega) (by omega)) ?_
          refine lv_topl (fun v_126 ev_126 => ?_)
          have ev_126 : v_126 = lN (C8 * D8 % P % Q9) := ev_126.trans (pk_lRem (by omega) (by omega) (by omega))
          subst ev_126
          refine W.lcmp hx hb dX0_verify_127 ?_
          refine lv_if_ne (tgt := 135) hx hb dX0_verify_128 (by decide) (fun c_128 => ?_) (fun c_128 => ?_)
          · have hno : ¬ ((1 ≤ nI y9 ∧ nI y9 < nI P) ∧ dk_ex (nI r8) (nI Q9) ∧ dk_ex (nI k9) (nI Q9) ∧ dk_n (nI r8) = dk_vv (nI P) (nI Q9) (nI G) (nI y9) a (nI r8) (nI k9)) := fun q => by
              rw [hvv, hrn] at q
              exact c_128 ((lg_cmp_eq _ _).mpr (congrArg lN q.2.2.2))
            refine lv_iconst (v := 0) hx hb dX0_verify_135 (by decide) ?_
            exact vx_ret (W.zret (v := 0) (ty := .boolean) hx hb hr rfl (fun t ht hW => ⟨⟨0, (cp, cq, cs, cn, nI P, nI Q9, nI G, se, pu), rfl, ⟨rfl, by rw [dk_fver, if_neg hdp, if_neg hno]⟩, by rw [ht]; exact hP, va_K.moved hW.alike hK, hD⟩, hS.F ht⟩) hS.2.2 dX0_verify_136)
          · have hyes : ((1 ≤ nI y9 ∧ nI y9 < nI P) ∧ dk_ex (nI r8) (nI Q9) ∧ dk_ex (nI k9) (nI Q9) ∧ dk_n (nI r8) = dk_vv (nI P) (nI Q9) (nI G) (nI y9) a (nI r8) (nI k9)) := ⟨hyy, hexr, hexs, by rw [hvv, hrn]; exact (pk_lEQ (by omega) (by omega)).mp ((lg_cmp_eq _ _).mp c_128)⟩
            refine lv_iconst (v := 1) hx hb dX0_verify_131 (by decide) ?_
            refine lv_goto (tgt := 136) hx hb dX0_verify_132 (by decide) ?_
            exact vx_ret (W.zret (v := 1) (ty := .boolean) hx hb hr rfl (fun t ht hW => ⟨⟨1, (cp, cq, cs, cn, nI P, nI Q9, nI G, se, pu), rfl, ⟨rfl, by rw [dk_fver, if_neg hdp, if_pos hyes]⟩, by rw [ht]; exact hP, va_K.moved hW.alike hK, hD⟩, hS.F ht⟩) hS.2.2 dX0_verify_136)
        · have hno : ¬ ((1 ≤ y ∧ y < nI P) ∧ dk_ex r (nI Q9) ∧ dk_ex k (nI Q9) ∧ dk_n r = dk_vv (nI P) (nI Q9) (nI G) y a r k) := fun q => by
            rw [if_pos q.2.2.1] at c_32
            exact absurd c_32 (by decide)
          refine lv_iconst (v := 0) hx hb dX0_verify_35 (by decide) ?_
          exact vx_ret (W.zret (v := 0) (ty := .boolean) hx hb hr rfl (fun t ht hW => ⟨⟨0, (cp, cq, cs, cn, nI P, nI Q9, nI G, se, pu), rfl, ⟨rfl, by rw [dk_fver, if_neg hdp, if_neg hno]⟩, by rw [ht]; exact hP, va_K.moved hW.alike hK, hD⟩, hS.F ht⟩) hS.2.2 dX0_verify_36)
