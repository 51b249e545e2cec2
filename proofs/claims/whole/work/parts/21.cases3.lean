set_option maxHeartbeats 4000000 in
set_option maxRecDepth 100000 in
theorem dk_case7 {p : Program} {l : Launch} {e : Env} {s : State} {m : MethodId} {below : List Frame} {meth : Method} {c : Code} {dC : Nat → ClassId} {dI : Nat → Nat → Nat} {b L : Nat} {xs : Nat → Int32} {h0 h1 h2 : Nat} {a1 a2 : ClassId} {k0 k1 : Nat} {b1 : ClassId} {ho : Nat} {ao : ClassId} (hl9 : l.stackTraces = false) (hL : L ≤ 3072) (C0 : lw_At p s m meth c b L xs) (hK : va_K (dC, dI) vwCl [(ao, .long), (a1, .int), (a2, .int), (b1, .int)] s) (hE : dk_E (fun q : Nat => s.heap.size ≤ q) s s.heap) {t9 cb sb : Nat} (ht9 : 6 * t9 + 6 ≤ L) (hcb : cb + 2 ≤ 1041) (hsb : sb + 12 ≤ 8305) (kk : dk_KK p l e s m below meth c dC dI b h0 h1 h2 a1 a2 k0 k1 b1 ho ao t9 (cb + 2) (sb + 12) 1019) : dk_KK p l e s m below meth c dC dI b h0 h1 h2 a1 a2 k0 k1 b1 ho ao t9 cb sb 497 := by
  obtain ⟨hx, hb, hr, hml, hown0, hts0, hX, hbl, hlocks, hgv⟩ := C0
  have hts := fun (w : Cond) (h : w ∈ wsL_law) => hts0 w (wsL_law_in w h)
  have hown : s.vm.findClass RL = some m.cls := hown0
  have hA : ∀ q : Nat, s.heap.size ≤ q → (fun q : Nat => s.heap.size ≤ q) q := fun _ h => h
  have hbA : ¬ (fun q : Nat => s.heap.size ≤ q) b := Nat.not_le.mpr hbl
  intro kc ks cp cq cs cn dp dq dg se pu mp mq mo hc ms9 kp kq kn th ou H locs ls hkc hks hR hP hD hS hl
  refine lv_aload_n hx hb dL_law_497 rfl (lv_at hl 1 rfl) ?_
  refine lv_aload_n hx hb dL_law_498 rfl (lv_at hl 0 rfl) ?_
  refine lv_iload hx hb dL_law_499 (lv_at hl 4 rfl) ?_
  refine lv_iconst (v := 1) hx hb dL_law_501 (by decide) ?_
  refine lv_iadd hx hb dL_law_502 ?_
  refine lv_topi (fun v_502 ev_502 => ?_)
  have ev_502 : v_502 = nI (6 * t9 + 1) := ev_502.trans (nI_add (6 * t9) 1)
  subst ev_502
  refine va_sld hx hb hX hbl hbA hS (vp_in_nI (n := 6 * t9 + 1) (by omega) (by omega)) dL_law_503 ?_
  refine lv_topi (fun v_503 ev_503 => ?_)
  have ev_503 : v_503 = xs (6 * t9 + 1) := ev_503.trans (congrArg xs (nI_clamp (by omega)))
  subst ev_503
  refine lv_aload_n hx hb dL_law_504 rfl (lv_at hl 3 rfl) ?_
  have hPc := hP.sub (ws' := [(ho, .inl (ao, 1, .inr (.inl ou))), (h0, .inr (0, [.int cp, .int cq, .long cs, .int cn, .int dp, .int dq, .int dg, .ref h1, .ref h2])), (h1, .inl (a1, 8, .inl se)), (h2, .inl (a2, 8, .inl pu))]) [0, 1, 2, 3] rfl
  have hDc := hD.sub (ws' := [(ho, .inl (ao, 1, .inr (.inl ou))), (h0, .inr (0, [.int cp, .int cq, .long cs, .int cn, .int dp, .int dq, .int dg, .ref h1, .ref h2])), (h1, .inl (a1, 8, .inl se)), (h2, .inl (a2, 8, .inl pu))]) [0, 1, 2, 3] (by decide) rfl
  have hKc := hK.sub (tys' := [(ao, .long), (a1, .int), (a2, .int)]) [0, 1, 2] rfl
  have hFc := va_free (wc := [(ho, .inl (ao, 1, .inr (.inl ou))), (h0, .inr (0, [.int cp, .int cq, .long cs, .int cn, .int dp, .int dq, .int dg, .ref h1, .ref h2])), (h1, .inl (a1, 8, .inl se)), (h2, .inl (a2, 8, .inl pu))]) hD hS hA [0, 1, 2, 3] rfl
  refine va_calli (vx_runSW (hh := [(0, 9, 12, 30)]) (As := [.ref h0, .int (xs (6 * t9 + 1)), .ref ho]) (rest := []) ⟨hx, hb, hml, hown, hts⟩ (dk_l_publicNumber l hl9 dC dI h0 h1 h2 a1 a2 ho ao cp cq cs cn dp dq dg se pu ou (xs (6 * t9 + 1)) hR.2.2.1 _) (vx_cwSW 3 hts gL_law_L_publicNumber rfl rfl rfl (by decide +kernel) ⟨Nat.le_of_ble_eq_true rfl, Nat.le_of_ble_eq_true rfl⟩) ⟨fun a U g mk q => by obtain ⟨q0, q1, qP, qK, qD, qE⟩ := q; exact ⟨q0, q1, qP, va_K.moved (u := U) (U := U.calling g mk a) (Vm.Alike.refl U.vm) qK, qD, qE.blind⟩, fun U hU hW => ⟨rfl, by rw [hU], by rw [hU]; exact hPc, va_K.moved hW.alike hKc, hDc.weaken (fun _ _ _ _ => trivial), hE.go hS hFc hU hW⟩⟩ rfl rfl hl.1 rfl (lv_room (Nat.le_of_ble_eq_true rfl)) dL_law_505 ⟨by show _ ≤ 1041; omega, by show _ ≤ 8305; omega⟩) hS (fun q _ h => hFc q h) hFc (fun r_505 u t H1 locs ht hvm hw hB hz1 hk1 hS => ?_)
  obtain ⟨v, hf, hw⟩ := hw
  obtain ⟨ou2, rfl, hv1⟩ : ∃ ou2 : Nat → Int64, u = ((cp, cq, cs, cn, dp, dq, dg, se, pu), ou2) ∧ (r_505 = 0 → ou2 0 = v.toInt64) := by
    rcases hw with ⟨q, rfl⟩ | ⟨q, rfl⟩
    · exact ⟨_, rfl, fun _ => rfl⟩
    · exact ⟨_, rfl, fun w9 => absurd w9 q⟩
  obtain ⟨hP1, hK1, hD1⟩ := hB
  rw [ht] at hP1
  have hK1 := va_K.moved hvm.symm hK1
  obtain ⟨hP, hD⟩ := va_join (wr := [(k0, .inr (1, [.int mp, .int mq, .int mo, .int hc, .long ms9, .int kp, .int kq, .int kn, .int dp, .int dq, .int dg, .ref k1, .int th])), (k1, .inl (b1, 8, .inl se))]) (w1 := [(ho, .inl (ao, 1, .inr (.inl ou2))), (h0, .inr (0, [.int cp, .int cq, .long cs, .int cn, .int dp, .int dq, .int dg, .ref h1, .ref h2])), (h1, .inl (a1, 8, .inl se)), (h2, .inl (a2, 8, .inl pu))]) hP hD [0, 1, 2, 3] [4, 5] rfl rfl (by decide) (by decide) hk1 hFc hP1 hD1
  have hK := (hK.sub (tys' := [(b1, .int)]) [3] rfl).app hK1
  generalize H1 = H at hP hS ⊢
  have hP : va_P (dC, dI) vwCl [(k0, .inr (1, [.int mp, .int mq, .int mo, .int hc, .long ms9, .int kp, .int kq, .int kn, .int dp, .int dq, .int dg, .ref k1, .int th])), (k1, .inl (b1, 8, .inl se)), (ho, .inl (ao, 1, .inr (.inl ou2))), (h0, .inr (0, [.int cp, .int cq, .long cs, .int cn, .int dp, .int dq, .int dg, .ref h1, .ref h2])), (h1, .inl (a1, 8, .inl se)), (h2, .inl (a2, 8, .inl pu))] H := hP
  have hD : va_D (fun q : Nat => s.heap.size ≤ q) [(k0, .inr (1, [.int mp, .int mq, .int mo, .int hc, .long ms9, .int kp, .int kq, .int kn, .int dp, .int dq, .int dg, .ref k1, .int th])), (k1, .inl (b1, 8, .inl se)), (ho, .inl (ao, 1, .inr (.inl ou2))), (h0, .inr (0, [.int cp, .int cq, .long cs, .int cn, .int dp, .int dq, .int dg, .ref h1, .ref h2])), (h1, .inl (a1, 8, .inl se)), (h2, .inl (a2, 8, .inl pu))] := hD
  have hK : va_K (dC, dI) vwCl [(b1, .int), (ao, .long), (a1, .int), (a2, .int)] s := hK
  refine lv_istore (lv' := [(5, .int r_505), (0, .ref b), (1, .ref h0), (2, .ref k0), (3, .ref ho), (4, .int (nI (6 * t9)))]) hx hb dL_law_508 hl (by decide) rfl (fun ls hl => ?_)
  refine lv_aload_n hx hb dL_law_510 rfl (lv_at hl 3 rfl) ?_
  refine lv_aload_n hx hb dL_law_511 rfl (lv_at hl 1 rfl) ?_
  refine lv_iload hx hb dL_law_512 (lv_at hl 5 rfl) ?_
  refine lv_iconst (v := 1) hx hb dL_law_514 (by decide) ?_
  refine lv_iadd hx hb dL_law_515 ?_
  refine lv_topi (fun v_515 ev_515 => ?_)
  have ev_515 : v_515 = nI (6 * t9 + 1) := ev_515.trans (nI_add (6 * t9) 1)
  subst ev_515
  refine va_sld hx hb hX hbl hbA hS (vp_in_nI (n := 6 * t9 + 1) (by omega) (by omega)) dL_law_516 ?_
  refine lv_topi (fun v_516 ev_516 => ?_)
  have ev_516 : v_516 = xs (6 * t9 + 1) := ev_516.trans (congrArg xs (nI_clamp (by omega)))
  subst ev_516
  have hPc := hP.sub (ws' := [(k0, .inr (1, [.int mp, .int mq, .int mo, .int hc, .long ms9, .int kp, .int kq, .int kn, .int dp, .int dq, .int dg, .ref k1, .int th])), (k1, .inl (b1, 8, .inl se))]) [0, 1] rfl
  have hDc := hD.sub (ws' := [(k0, .inr (1, [.int mp, .int mq, .int mo, .int hc, .long ms9, .int kp, .int kq, .int kn, .int dp, .int dq, .int dg, .ref k1, .int th])), (k1, .inl (b1, 8, .inl se))]) [0, 1] (by decide) rfl
  have hKc := hK.sub (tys' := [(b1, .int)]) [0] rfl
  have hFc := va_free (wc := [(k0, .inr (1, [.int mp, .int mq, .int mo, .int hc, .long ms9, .int kp, .int kq, .int kn, .int dp, .int dq, .int dg, .ref k1, .int th])), (k1, .inl (b1, 8, .inl se))]) hD hS hA [0, 1] rfl
  refine va_calli (va_runV (As := [.int (xs (6 * t9 + 1))]) (rest := []) ⟨hx, hb, hml, hown, hts⟩ (dk_m_publicNumber l dC dI k0 k1 b1 mp mq mo hc ms9 kp kq kn dp dq dg th se (xs (6 * t9 + 1)) hR.2.1 hR.km _) (cwV 1 hts gL_law_X1_publicNumber rfl rfl rfl (by decide +kernel) ⟨Nat.le_of_ble_eq_true rfl, Nat.le_of_ble_eq_true rfl⟩) ⟨fun a U g mk q => by obtain ⟨q0, q1, qP, qK, qD⟩ := q; exact ⟨q0, q1, qP, va_K.moved (u := U) (U := U.calling g mk a) (Vm.Alike.refl U.vm) qK, qD⟩, va_recv hKc hPc (ci := 1) (q0 := 0) rfl rfl, fun U hU hW => ⟨rfl, by rw [hU], by rw [hU]; exact hPc, va_K.moved hW.alike hKc, hDc.weaken (fun _ _ _ _ => trivial)⟩⟩ rfl rfl hl.1 rfl (lv_room (Nat.le_of_ble_eq_true rfl)) dL_law_517 ⟨by show _ ≤ 1041; omega, by show _ ≤ 8305; omega⟩) hS (fun q _ h => hFc q h) hFc (fun r_517 u t H1 locs ht hvm hw hB hz1 hk1 hS => ?_)
  obtain ⟨th2, hf2, rfl⟩ := hw
  have hk : th2 = r_505 := congrArg Prod.fst (hf2.symm.trans hf)
  have hv0 : r_517 = v := congrArg Prod.snd (hf2.symm.trans hf)
  subst hv0
  obtain ⟨hP1, hK1, hD1⟩ := hB
  rw [ht] at hP1
  have hK1 := va_K.moved hvm.symm hK1
  obtain ⟨hP, hD⟩ := va_join (wr := [(ho, .inl (ao, 1, .inr (.inl ou2))), (h0, .inr (0, [.int cp, .int cq, .long cs, .int cn, .int dp, .int dq, .int dg, .ref h1, .ref h2])), (h1, .inl (a1, 8, .inl se)), (h2, .inl (a2, 8, .inl pu))]) (w1 := [(k0, .inr (1, [.int mp, .int mq, .int mo, .int hc, .long ms9, .int kp, .int kq, .int kn, .int dp, .int dq, .int dg, .ref k1, .int th2])), (k1, .inl (b1, 8, .inl se))]) hP hD [0, 1] [2, 3, 4, 5] rfl rfl (by decide) (by decide) hk1 hFc hP1 hD1
  have hK := (hK.sub (tys' := [(ao, .long), (a1, .int), (a2, .int)]) [1, 2, 3] rfl).app hK1
  generalize H1 = H at hP hS ⊢
  have hP : va_P (dC, dI) vwCl [(ho, .inl (ao, 1, .inr (.inl ou2))), (h0, .inr (0, [.int cp, .int cq, .long cs, .int cn, .int dp, .int dq, .int dg, .ref h1, .ref h2])), (h1, .inl (a1, 8, .inl se)), (h2, .inl (a2, 8, .inl pu)), (k0, .inr (1, [.int mp, .int mq, .int mo, .int hc, .long ms9, .int kp, .int kq, .int kn, .int dp, .int dq, .int dg, .ref k1, .int th2])), (k1, .inl (b1, 8, .inl se))] H := hP
  have hD : va_D (fun q : Nat => s.heap.size ≤ q) [(ho, .inl (ao, 1, .inr (.inl ou2))), (h0, .inr (0, [.int cp, .int cq, .long cs, .int cn, .int dp, .int dq, .int dg, .ref h1, .ref h2])), (h1, .inl (a1, 8, .inl se)), (h2, .inl (a2, 8, .inl pu)), (k0, .inr (1, [.int mp, .int mq, .int mo, .int hc, .long ms9, .int kp, .int kq, .int kn, .int dp, .int dq, .int dg, .ref k1, .int th2])), (k1, .inl (b1, 8, .inl se))] := hD
  have hK : va_K (dC, dI) vwCl [(ao, .long), (a1, .int), (a2, .int), (b1, .int)] s := hK
  refine lv_istore (lv' := [(6, .int r_517), (5, .int r_505), (0, .ref b), (1, .ref h0), (2, .ref k0), (3, .ref ho), (4, .int (nI (6 * t9)))]) hx hb dL_law_520 hl (by decide) rfl (fun ls hl => ?_)
  refine lv_aload_n hx hb dL_law_522 rfl (lv_at hl 4 rfl) ?_
  have hPc := hP.sub (ws' := [(k0, .inr (1, [.int mp, .int mq, .int mo, .int hc, .long ms9, .int kp, .int kq, .int kn, .int dp, .int dq, .int dg, .ref k1, .int th2])), (k1, .inl (b1, 8, .inl se))]) [4, 5] rfl
  have hKc := hK.sub (tys' := [(b1, .int)]) [3] rfl
  refine vp_callSi (W.runV (As := []) (rest := []) ⟨hx, hb, hml, hown, hts⟩ (dk_m_thrown l dC dI k0 k1 b1 mp mq mo hc ms9 kp kq kn dp dq dg th2 se ) (cwV 0 hts gL_law_X1_thrown rfl rfl rfl (by decide +kernel) ⟨Nat.le_of_ble_eq_true rfl, Nat.le_of_ble_eq_true rfl⟩) ⟨fun a U g mk q => by obtain ⟨q0, qP, qK⟩ := q; exact ⟨q0, qP, va_K.moved (u := U) (U := U.calling g mk a) (Vm.Alike.refl U.vm) qK⟩, va_recv hKc hPc (ci := 1) (q0 := 0) rfl rfl, fun U hU hW => ⟨rfl, by rw [hU]; exact hPc, va_K.moved hW.alike hKc⟩⟩ rfl rfl hl.1 rfl (lv_room (Nat.le_of_ble_eq_true rfl)) dL_law_523 ⟨by show _ ≤ 1041; omega, by show _ ≤ 8305; omega⟩) (fun r_523 hr_523 => ?_)
  refine lv_iload hx hb dL_law_526 (lv_at hl 1 rfl) ?_
  refine lv_icmp_eq (tgt := 533) hx hb dL_law_528 (by decide) (fun c_528 => ?_) (fun c_528 => ?_)
  · refine lv_iload hx hb dL_law_533 (lv_at hl 1 rfl) ?_
    refine lv_if_ne (tgt := 550) hx hb dL_law_535 (by decide) (fun c_535 => ?_) (fun c_535 => ?_)
    · refine lv_goto (tgt := 1019) hx hb dL_law_550 (by decide) ?_
      exact kk _ _ cp cq cs cn dp dq dg se pu mp mq mo hc ms9 kp kq kn th2 ou2 _ _ ls (by omega) (by omega) hR (hP.sub [0, 1, 2, 3, 4, 5] rfl) (hD.sub [0, 1, 2, 3, 4, 5] (by decide) rfl) hS (lv_sub hl [2, 3, 4, 5, 6] rfl)
    · refine lv_aload_n hx hb dL_law_538 rfl (lv_at hl 5 rfl) ?_
      refine lv_iconst (v := 0) hx hb dL_law_539 (by decide) ?_
      refine va_lald hx hb hK hP 0 0 rfl rfl (vp_in_nI (n := 0) (by decide) (by decide)) dL_law_540 ?_
      refine lv_topl (fun v_540 ev_540 => ?_)
      have ev_540 : v_540 = ou2 0 := ev_540.trans (congrArg ou2 sb_cl0)
      subst ev_540
      refine lv_iload hx hb dL_law_541 (lv_at hl 0 rfl) ?_
      refine lv_i2l hx hb dL_law_543 rfl ?_
      refine W.lcmp hx hb dL_law_544 ?_
      refine lv_if_eq (tgt := 550) hx hb dL_law_545 (by decide) (fun c_545 => ?_) (fun c_545 => ?_)
      · refine lv_goto (tgt := 1019) hx hb dL_law_550 (by decide) ?_
        exact kk _ _ cp cq cs cn dp dq dg se pu mp mq mo hc ms9 kp kq kn th2 ou2 _ _ ls (by omega) (by omega) hR (hP.sub [0, 1, 2, 3, 4, 5] rfl) (hD.sub [0, 1, 2, 3, 4, 5] (by decide) rfl) hS (lv_sub hl [2, 3, 4, 5, 6] rfl)
      · exact absurd ((lg_cmp_eq _ _).mpr (hv1 c_535)) c_545
  · exact absurd (hr_523.trans hk) c_528

set_option maxHeartbeats 4000000 in
set_option maxRecDepth 100000 in
theorem dk_case9 {p : Program} {l : Launch} {e : Env} {s : State} {m : MethodId} {below : List Frame} {meth : Method} {c : Code} {dC : Nat → ClassId} {dI : Nat → Nat → Nat} {b L : Nat} {xs : Nat → Int32} {h0 h1 h2 : Nat} {a1 a2 : ClassId} {k0 k1 : Nat} {b1 : ClassId} {ho : Nat} {ao : ClassId} (hl9 : l.stackTraces = false) (hL : L ≤ 3072) (C0 : lw_At p s m meth c b L xs) (hK : va_K (dC, dI) vwCl [(ao, .long), (a1, .int), (a2, .int), (b1, .int)] s) (hE : dk_E (fun q : Nat => s.heap.size ≤ q) s s.heap) {t9 cb sb : Nat} (ht9 : 6 * t9 + 6 ≤ L) (hcb : cb + 2 ≤ 1041) (hsb : sb + 12 ≤ 8305) (kk : dk_KK p l e s m below meth c dC dI b h0 h1 h2 a1 a2 k0 k1 b1 ho ao t9 (cb + 2) (sb + 12) 1019) : dk_KK p l e s m below meth c dC dI b h0 h1 h2 a1 a2 k0 k1 b1 ho ao t9 cb sb 589 := by
  obtain ⟨hx, hb, hr, hml, hown0, hts0, hX, hbl, hlocks, hgv⟩ := C0
  have hts := fun (w : Cond) (h : w ∈ wsL_law) => hts0 w (wsL_law_in w h)
  have hown : s.vm.findClass RL = some m.cls := hown0
  have hA : ∀ q : Nat, s.heap.size ≤ q → (fun q : Nat => s.heap.size ≤ q) q := fun _ h => h
  have hbA : ¬ (fun q : Nat => s.heap.size ≤ q) b := Nat.not_le.mpr hbl
  intro kc ks cp cq cs cn dp dq dg se pu mp mq mo hc ms9 kp kq kn th ou H locs ls hkc hks hR hP hD hS hl
  refine lv_aload_n hx hb dL_law_589 rfl (lv_at hl 1 rfl) ?_
  refine lv_aload_n hx hb dL_law_590 rfl (lv_at hl 0 rfl) ?_
  refine lv_iload hx hb dL_law_591 (lv_at hl 4 rfl) ?_
  refine lv_iconst (v := 1) hx hb dL_law_593 (by decide) ?_
  refine lv_iadd hx hb dL_law_594 ?_
  refine lv_topi (fun v_594 ev_594 => ?_)
  have ev_594 : v_594 = nI (6 * t9 + 1) := ev_594.trans (nI_add (6 * t9) 1)
  subst ev_594
  refine va_sld hx hb hX hbl hbA hS (vp_in_nI (n := 6 * t9 + 1) (by omega) (by omega)) dL_law_595 ?_
  refine lv_topi (fun v_595 ev_595 => ?_)
  have ev_595 : v_595 = xs (6 * t9 + 1) := ev_595.trans (congrArg xs (nI_clamp (by omega)))
  subst ev_595
  refine lv_aload_n hx hb dL_law_596 rfl (lv_at hl 3 rfl) ?_
  have hPc := hP.sub (ws' := [(ho, .inl (ao, 1, .inr (.inl ou))), (h0, .inr (0, [.int cp, .int cq, .long cs, .int cn, .int dp, .int dq, .int dg, .ref h1, .ref h2])), (h1, .inl (a1, 8, .inl se)), (h2, .inl (a2, 8, .inl pu))]) [0, 1, 2, 3] rfl
  have hDc := hD.sub (ws' := [(ho, .inl (ao, 1, .inr (.inl ou))), (h0, .inr (0, [.int cp, .int cq, .long cs, .int cn, .int dp, .int dq, .int dg, .ref h1, .ref h2])), (h1, .inl (a1, 8, .inl se)), (h2, .inl (a2, 8, .inl pu))]) [0, 1, 2, 3] (by decide) rfl
  have hKc := hK.sub (tys' := [(ao, .long), (a1, .int), (a2, .int)]) [0, 1, 2] rfl
  have hFc := va_free (wc := [(ho, .inl (ao, 1, .inr (.inl ou))), (h0, .inr (0, [.int cp, .int cq, .long cs, .int cn, .int dp, .int dq, .int dg, .ref h1, .ref h2])), (h1, .inl (a1, 8, .inl se)), (h2, .inl (a2, 8, .inl pu))]) hD hS hA [0, 1, 2, 3] rfl
  refine va_calli (vx_runSW (hh := [(0, 16, 19, 13)]) (As := [.ref h0, .int (xs (6 * t9 + 1)), .ref ho]) (rest := []) ⟨hx, hb, hml, hown, hts⟩ (dk_l_fits l hl9 dC dI h0 h1 h2 a1 a2 ho ao cp cq cs cn dp dq dg se pu ou (xs (6 * t9 + 1)) hR.2.1 _) (vx_cwSW 3 hts gL_law_L_fits rfl rfl rfl (by decide +kernel) ⟨Nat.le_of_ble_eq_true rfl, Nat.le_of_ble_eq_true rfl⟩) ⟨fun a U g mk q => by obtain ⟨q0, q1, qP, qK, qD, qE⟩ := q; exact ⟨q0, q1, qP, va_K.moved (u := U) (U := U.calling g mk a) (Vm.Alike.refl U.vm) qK, qD, qE.blind⟩, fun U hU hW => ⟨rfl, by rw [hU], by rw [hU]; exact hPc, va_K.moved hW.alike hKc, hDc.weaken (fun _ _ _ _ => trivial), hE.go hS hFc hU hW⟩⟩ rfl rfl hl.1 rfl (lv_room (Nat.le_of_ble_eq_true rfl)) dL_law_597 ⟨by show _ ≤ 1041; omega, by show _ ≤ 8305; omega⟩) hS (fun q _ h => hFc q h) hFc (fun r_597 u t H1 locs ht hvm hw hB hz1 hk1 hS => ?_)
  obtain ⟨v, hf, hw⟩ := hw
  obtain ⟨ou2, rfl, hv1⟩ : ∃ ou2 : Nat → Int64, u = ((cp, cq, cs, cn, dp, dq, dg, se, pu), ou2) ∧ (r_597 = 0 → ou2 0 = (if v = 0 then 0 else 1)) := by
    rcases hw with ⟨q, rfl⟩ | ⟨q, rfl⟩
    · exact ⟨_, rfl, fun _ => rfl⟩
    · exact ⟨_, rfl, fun w9 => absurd w9 q⟩
  obtain ⟨hP1, hK1, hD1⟩ := hB
  rw [ht] at hP1
  have hK1 := va_K.moved hvm.symm hK1
  obtain ⟨hP, hD⟩ := va_join (wr := [(k0, .inr (1, [.int mp, .int mq, .int mo, .int hc, .long ms9, .int kp, .int kq, .int kn, .int dp, .int dq, .int dg, .ref k1, .int th])), (k1, .inl (b1, 8, .inl se))]) (w1 := [(ho, .inl (ao, 1, .inr (.inl ou2))), (h0, .inr (0, [.int cp, .int cq, .long cs, .int cn, .int dp, .int dq, .int dg, .ref h1, .ref h2])), (h1, .inl (a1, 8, .inl se)), (h2, .inl (a2, 8, .inl pu))]) hP hD [0, 1, 2, 3] [4, 5] rfl rfl (by decide) (by decide) hk1 hFc hP1 hD1
  have hK := (hK.sub (tys' := [(b1, .int)]) [3] rfl).app hK1
  generalize H1 = H at hP hS ⊢
  have hP : va_P (dC, dI) vwCl [(k0, .inr (1, [.int mp, .int mq, .int mo, .int hc, .long ms9, .int kp, .int kq, .int kn, .int dp, .int dq, .int dg, .ref k1, .int th])), (k1, .inl (b1, 8, .inl se)), (ho, .inl (ao, 1, .inr (.inl ou2))), (h0, .inr (0, [.int cp, .int cq, .long cs, .int cn, .int dp, .int dq, .int dg, .ref h1, .ref h2])), (h1, .inl (a1, 8, .inl se)), (h2, .inl (a2, 8, .inl pu))] H := hP
  have hD : va_D (fun q : Nat => s.heap.size ≤ q) [(k0, .inr (1, [.int mp, .int mq, .int mo, .int hc, .long ms9, .int kp, .int kq, .int kn, .int dp, .int dq, .int dg, .ref k1, .int th])), (k1, .inl (b1, 8, .inl se)), (ho, .inl (ao, 1, .inr (.inl ou2))), (h0, .inr (0, [.int cp, .int cq, .long cs, .int cn, .int dp, .int dq, .int dg, .ref h1, .ref h2])), (h1, .inl (a1, 8, .inl se)), (h2, .inl (a2, 8, .inl pu))] := hD
  have hK : va_K (dC, dI) vwCl [(b1, .int), (ao, .long), (a1, .int), (a2, .int)] s := hK
  refine lv_istore (lv' := [(5, .int r_597), (0, .ref b), (1, .ref h0), (2, .ref k0), (3, .ref ho), (4, .int (nI (6 * t9)))]) hx hb dL_law_600 hl (by decide) rfl (fun ls hl => ?_)
  refine lv_aload_n hx hb dL_law_602 rfl (lv_at hl 3 rfl) ?_
  refine lv_aload_n hx hb dL_law_603 rfl (lv_at hl 1 rfl) ?_
  refine lv_iload hx hb dL_law_604 (lv_at hl 5 rfl) ?_
  refine lv_iconst (v := 1) hx hb dL_law_606 (by decide) ?_
  refine lv_iadd hx hb dL_law_607 ?_
  refine lv_topi (fun v_607 ev_607 => ?_)
  have ev_607 : v_607 = nI (6 * t9 + 1) := ev_607.trans (nI_add (6 * t9) 1)
  subst ev_607
  refine va_sld hx hb hX hbl hbA hS (vp_in_nI (n := 6 * t9 + 1) (by omega) (by omega)) dL_law_608 ?_
  refine lv_topi (fun v_608 ev_608 => ?_)
  have ev_608 : v_608 = xs (6 * t9 + 1) := ev_608.trans (congrArg xs (nI_clamp (by omega)))
  subst ev_608
  have hPc := hP.sub (ws' := [(k0, .inr (1, [.int mp, .int mq, .int mo, .int hc, .long ms9, .int kp, .int kq, .int kn, .int dp, .int dq, .int dg, .ref k1, .int th])), (k1, .inl (b1, 8, .inl se))]) [0, 1] rfl
  have hDc := hD.sub (ws' := [(k0, .inr (1, [.int mp, .int mq, .int mo, .int hc, .long ms9, .int kp, .int kq, .int kn, .int dp, .int dq, .int dg, .ref k1, .int th])), (k1, .inl (b1, 8, .inl se))]) [0, 1] (by decide) rfl
  have hKc := hK.sub (tys' := [(b1, .int)]) [0] rfl
  have hFc := va_free (wc := [(k0, .inr (1, [.int mp, .int mq, .int mo, .int hc, .long ms9, .int kp, .int kq, .int kn, .int dp, .int dq, .int dg, .ref k1, .int th])), (k1, .inl (b1, 8, .inl se))]) hD hS hA [0, 1] rfl
  refine va_calli (va_runV (As := [.int (xs (6 * t9 + 1))]) (rest := []) ⟨hx, hb, hml, hown, hts⟩ (dk_m_fits l dC dI k0 k1 b1 mp mq mo hc ms9 kp kq kn dp dq dg th se (xs (6 * t9 + 1)) hR.2.1 _) (cwV 1 hts gL_law_X1_fits rfl rfl rfl (by decide +kernel) ⟨Nat.le_of_ble_eq_true rfl, Nat.le_of_ble_eq_true rfl⟩) ⟨fun a U g mk q => by obtain ⟨q0, q1, qP, qK, qD⟩ := q; exact ⟨q0, q1, qP, va_K.moved (u := U) (U := U.calling g mk a) (Vm.Alike.refl U.vm) qK, qD⟩, va_recv hKc hPc (ci := 1) (q0 := 0) rfl rfl, fun U hU hW => ⟨rfl, by rw [hU], by rw [hU]; exact hPc, va_K.moved hW.alike hKc, hDc.weaken (fun _ _ _ _ => trivial)⟩⟩ rfl rfl hl.1 rfl (lv_room (Nat.le_of_ble_eq_true rfl)) dL_law_609 ⟨by show _ ≤ 1041; omega, by show _ ≤ 8305; omega⟩) hS (fun q _ h => hFc q h) hFc (fun r_609 u t H1 locs ht hvm hw hB hz1 hk1 hS => ?_)
  obtain ⟨th2, hf2, rfl⟩ := hw
  have hk : th2 = r_597 := congrArg Prod.fst (hf2.symm.trans hf)
  have hv0 : r_609 = v := congrArg Prod.snd (hf2.symm.trans hf)
  subst hv0
  obtain ⟨hP1, hK1, hD1⟩ := hB
  rw [ht] at hP1
  have hK1 := va_K.moved hvm.symm hK1
  obtain ⟨hP, hD⟩ := va_join (wr := [(ho, .inl (ao, 1, .inr (.inl ou2))), (h0, .inr (0, [.int cp, .int cq, .long cs, .int cn, .int dp, .int dq, .int dg, .ref h1, .ref h2])), (h1, .inl (a1, 8, .inl se)), (h2, .inl (a2, 8, .inl pu))]) (w1 := [(k0, .inr (1, [.int mp, .int mq, .int mo, .int hc, .long ms9, .int kp, .int kq, .int kn, .int dp, .int dq, .int dg, .ref k1, .int th2])), (k1, .inl (b1, 8, .inl se))]) hP hD [0, 1] [2, 3, 4, 5] rfl rfl (by decide) (by decide) hk1 hFc hP1 hD1
  have hK := (hK.sub (tys' := [(ao, .long), (a1, .int), (a2, .int)]) [1, 2, 3] rfl).app hK1
  generalize H1 = H at hP hS ⊢
  have hP : va_P (dC, dI) vwCl [(ho, .inl (ao, 1, .inr (.inl ou2))), (h0, .inr (0, [.int cp, .int cq, .long cs, .int cn, .int dp, .int dq, .int dg, .ref h1, .ref h2])), (h1, .inl (a1, 8, .inl se)), (h2, .inl (a2, 8, .inl pu)), (k0, .inr (1, [.int mp, .int mq, .int mo, .int hc, .long ms9, .int kp, .int kq, .int kn, .int dp, .int dq, .int dg, .ref k1, .int th2])), (k1, .inl (b1, 8, .inl se))] H := hP
  have hD : va_D (fun q : Nat => s.heap.size ≤ q) [(ho, .inl (ao, 1, .inr (.inl ou2))), (h0, .inr (0, [.int cp, .int cq, .long cs, .int cn, .int dp, .int dq, .int dg, .ref h1, .ref h2])), (h1, .inl (a1, 8, .inl se)), (h2, .inl (a2, 8, .inl pu)), (k0, .inr (1, [.int mp, .int mq, .int mo, .int hc, .long ms9, .int kp, .int kq, .int kn, .int dp, .int dq, .int dg, .ref k1, .int th2])), (k1, .inl (b1, 8, .inl se))] := hD
  have hK : va_K (dC, dI) vwCl [(ao, .long), (a1, .int), (a2, .int), (b1, .int)] s := hK
  refine lv_istore (lv' := [(6, .int r_609), (5, .int r_597), (0, .ref b), (1, .ref h0), (2, .ref k0), (3, .ref ho), (4, .int (nI (6 * t9)))]) hx hb dL_law_612 hl (by decide) rfl (fun ls hl => ?_)
  refine lv_aload_n hx hb dL_law_614 rfl (lv_at hl 4 rfl) ?_
  have hPc := hP.sub (ws' := [(k0, .inr (1, [.int mp, .int mq, .int mo, .int hc, .long ms9, .int kp, .int kq, .int kn, .int dp, .int dq, .int dg, .ref k1, .int th2])), (k1, .inl (b1, 8, .inl se))]) [4, 5] rfl
  have hKc := hK.sub (tys' := [(b1, .int)]) [3] rfl
  refine vp_callSi (W.runV (As := []) (rest := []) ⟨hx, hb, hml, hown, hts⟩ (dk_m_thrown l dC dI k0 k1 b1 mp mq mo hc ms9 kp kq kn dp dq dg th2 se ) (cwV 0 hts gL_law_X1_thrown rfl rfl rfl (by decide +kernel) ⟨Nat.le_of_ble_eq_true rfl, Nat.le_of_ble_eq_true rfl⟩) ⟨fun a U g mk q => by obtain ⟨q0, qP, qK⟩ := q; exact ⟨q0, qP, va_K.moved (u := U) (U := U.calling g mk a) (Vm.Alike.refl U.vm) qK⟩, va_recv hKc hPc (ci := 1) (q0 := 0) rfl rfl, fun U hU hW => ⟨rfl, by rw [hU]; exact hPc, va_K.moved hW.alike hKc⟩⟩ rfl rfl hl.1 rfl (lv_room (Nat.le_of_ble_eq_true rfl)) dL_law_615 ⟨by show _ ≤ 1041; omega, by show _ ≤ 8305; omega⟩) (fun r_615 hr_615 => ?_)
  refine lv_iload hx hb dL_law_618 (lv_at hl 1 rfl) ?_
  refine lv_icmp_eq (tgt := 625) hx hb dL_law_620 (by decide) (fun c_620 => ?_) (fun c_620 => ?_)
  · refine lv_iload hx hb dL_law_625 (lv_at hl 1 rfl) ?_
    refine lv_if_ne (tgt := 649) hx hb dL_law_627 (by decide) (fun c_627 => ?_) (fun c_627 => ?_)
    · refine lv_goto (tgt := 1019) hx hb dL_law_649 (by decide) ?_
      exact kk _ _ cp cq cs cn dp dq dg se pu mp mq mo hc ms9 kp kq kn th2 ou2 _ _ ls (by omega) (by omega) hR (hP.sub [0, 1, 2, 3, 4, 5] rfl) (hD.sub [0, 1, 2, 3, 4, 5] (by decide) rfl) hS (lv_sub hl [2, 3, 4, 5, 6] rfl)
    · refine lv_aload_n hx hb dL_law_630 rfl (lv_at hl 5 rfl) ?_
      refine lv_iconst (v := 0) hx hb dL_law_631 (by decide) ?_
      refine va_lald hx hb hK hP 0 0 rfl rfl (vp_in_nI (n := 0) (by decide) (by decide)) dL_law_632 ?_
      refine lv_topl (fun v_632 ev_632 => ?_)
      have ev_632 : v_632 = ou2 0 := ev_632.trans (congrArg ou2 sb_cl0)
      subst ev_632
      refine lv_iload hx hb dL_law_633 (lv_at hl 0 rfl) ?_
      refine lv_if_eq (tgt := 642) hx hb dL_law_635 (by decide) (fun c_635 => ?_) (fun c_635 => ?_)
      · refine lv_lconst (v := 0) hx hb dL_law_642 (by decide) ?_
        refine W.lcmp hx hb dL_law_643 ?_
        refine lv_if_eq (tgt := 649) hx hb dL_law_644 (by decide) (fun c_644 => ?_) (fun c_644 => ?_)
        · refine lv_goto (tgt := 1019) hx hb dL_law_649 (by decide) ?_
          exact kk _ _ cp cq cs cn dp dq dg se pu mp mq mo hc ms9 kp kq kn th2 ou2 _ _ ls (by omega) (by omega) hR (hP.sub [0, 1, 2, 3, 4, 5] rfl) (hD.sub [0, 1, 2, 3, 4, 5] (by decide) rfl) hS (lv_sub hl [2, 3, 4, 5, 6] rfl)
        · exact absurd ((lg_cmp_eq _ _).mpr ((hv1 c_627).trans (if_pos c_635))) c_644
      · refine lv_lconst (v := 1) hx hb dL_law_638 (by decide) ?_
        refine lv_goto (tgt := 643) hx hb dL_law_639 (by decide) ?_
        refine W.lcmp hx hb dL_law_643 ?_
        refine lv_if_eq (tgt := 649) hx hb dL_law_644 (by decide) (fun c_644 => ?_) (fun c_644 => ?_)
        · refine lv_goto (tgt := 1019) hx hb dL_law_649 (by decide) ?_
          exact kk _ _ cp cq cs cn dp dq dg se pu mp mq mo hc ms9 kp kq kn th2 ou2 _ _ ls (by omega) (by omega) hR (hP.sub [0, 1, 2, 3, 4, 5] rfl) (hD.sub [0, 1, 2, 3, 4, 5] (by decide) rfl) hS (lv_sub hl [2, 3, 4, 5, 6] rfl)
        · exact absurd ((lg_cmp_eq _ _).mpr ((hv1 c_627).trans (if_neg c_635))) c_644
  · exact absurd (hr_615.trans hk) c_620

set_option maxHeartbeats 4000000 in
set_option maxRecDepth 100000 in
theorem dk_case11 {p : Program} {l : Launch} {e : Env} {s : State} {m : MethodId} {below : List Frame} {meth : Method} {c : Code} {dC : Nat → ClassId} {dI : Nat → Nat → Nat} {b L : Nat} {xs : Nat → Int32} {h0 h1 h2 : Nat} {a1 a2 : ClassId} {k0 k1 : Nat} {b1 : ClassId} {ho : Nat} {ao : ClassId} (hl9 : l.stackTraces = false) (hL : L ≤ 3072) (C0 : lw_At p s m meth c b L xs) (hK : va_K (dC, dI) vwCl [(ao, .long), (a1, .int), (a2, .int), (b1, .int)] s) (hE : dk_E (fun q : Nat => s.heap.size ≤ q) s s.heap) {t9 cb sb : Nat} (ht9 : 6 * t9 + 6 ≤ L) (hcb : cb + 2 ≤ 1041) (hsb : sb + 12 ≤ 8305) (kk : dk_KK p l e s m below meth c dC dI b h0 h1 h2 a1 a2 k0 k1 b1 ho ao t9 (cb + 2) (sb + 12) 1019) : dk_KK p l e s m below meth c dC dI b h0 h1 h2 a1 a2 k0 k1 b1 ho ao t9 cb sb 709 := by
  obtain ⟨hx, hb, hr, hml, hown0, hts0, hX, hbl, hlocks, hgv⟩ := C0
  have hts := fun (w : Cond) (h : w ∈ wsL_law) => hts0 w (wsL_law_in w h)
  have hown : s.vm.findClass RL = some m.cls := hown0
  have hA : ∀ q : Nat, s.heap.size ≤ q → (fun q : Nat => s.heap.size ≤ q) q := fun _ h => h
  have hbA : ¬ (fun q : Nat => s.heap.size ≤ q) b := Nat.not_le.mpr hbl
  intro kc ks cp cq cs cn dp dq dg se pu mp mq mo hc ms9 kp kq kn th ou H locs ls hkc hks hR hP hD hS hl
  refine lv_aload_n hx hb dL_law_709 rfl (lv_at hl 1 rfl) ?_
  refine lv_aload_n hx hb dL_law_710 rfl (lv_at hl 0 rfl) ?_
  refine lv_iload hx hb dL_law_711 (lv_at hl 4 rfl) ?_
  refine lv_iconst (v := 1) hx hb dL_law_713 (by decide) ?_
  refine lv_iadd hx hb dL_law_714 ?_
  refine lv_topi (fun v_714 ev_714 => ?_)
  have ev_714 : v_714 = nI (6 * t9 + 1) := ev_714.trans (nI_add (6 * t9) 1)
  subst ev_714
  refine va_sld hx hb hX hbl hbA hS (vp_in_nI (n := 6 * t9 + 1) (by omega) (by omega)) dL_law_715 ?_
  refine lv_topi (fun v_715 ev_715 => ?_)
  have ev_715 : v_715 = xs (6 * t9 + 1) := ev_715.trans (congrArg xs (nI_clamp (by omega)))
  subst ev_715
  refine lv_aload_n hx hb dL_law_716 rfl (lv_at hl 0 rfl) ?_
  refine lv_iload hx hb dL_law_717 (lv_at hl 4 rfl) ?_
  refine lv_iconst (v := 2) hx hb dL_law_719 (by decide) ?_
  refine lv_iadd hx hb dL_law_720 ?_
  refine lv_topi (fun v_720 ev_720 => ?_)
  have ev_720 : v_720 = nI (6 * t9 + 2) := ev_720.trans (nI_add (6 * t9) 2)
  subst ev_720
  refine va_sld hx hb hX hbl hbA hS (vp_in_nI (n := 6 * t9 + 2) (by omega) (by omega)) dL_law_721 ?_
  refine lv_topi (fun v_721 ev_721 => ?_)
  have ev_721 : v_721 = xs (6 * t9 + 2) := ev_721.trans (congrArg xs (nI_clamp (by omega)))
  subst ev_721
  refine lv_i2l hx hb dL_law_722 rfl ?_
  refine lv_bipush (v := 32) hx hb dL_law_723 (by decide) ?_
  refine lv_lshl hx hb dL_law_725 rfl ?_
  refine lv_aload_n hx hb dL_law_726 rfl (lv_at hl 0 rfl) ?_
  refine lv_iload hx hb dL_law_727 (lv_at hl 4 rfl) ?_
  refine lv_iconst (v := 3) hx hb dL_law_729 (by decide) ?_
  refine lv_iadd hx hb dL_law_730 ?_
  refine lv_topi (fun v_730 ev_730 => ?_)
  have ev_730 : v_730 = nI (6 * t9 + 3) := ev_730.trans (nI_add (6 * t9) 3)
  subst ev_730
  refine va_sld hx hb hX hbl hbA hS (vp_in_nI (n := 6 * t9 + 3) (by omega) (by omega)) dL_law_731 ?_
  refine lv_topi (fun v_731 ev_731 => ?_)
  have ev_731 : v_731 = xs (6 * t9 + 3) := ev_731.trans (congrArg xs (nI_clamp (by omega)))
  subst ev_731
  refine lv_i2l hx hb dL_law_732 rfl ?_
  refine lv_ldc2 (v := 4294967295) hx hb hown (hts (.constantLong RL 57 4294967295) (by decide +kernel)) dL_law_733 ?_
  refine lv_land hx hb dL_law_736 ?_
  refine lv_lor hx hb dL_law_737 ?_
  refine lv_topl (fun v_737 ev_737 => ?_)
  have ev_737 : v_737 = dk_lg (xs (6 * t9 + 2)) (xs (6 * t9 + 3)) := ev_737.trans rfl
  subst ev_737
  refine lv_aload_n hx hb dL_law_738 rfl (lv_at hl 0 rfl) ?_
  refine lv_iload hx hb dL_law_739 (lv_at hl 4 rfl) ?_
  refine lv_iconst (v := 4) hx hb dL_law_741 (by decide) ?_
  refine lv_iadd hx hb dL_law_742 ?_
  refine lv_topi (fun v_742 ev_742 => ?_)
  have ev_742 : v_742 = nI (6 * t9 + 4) := ev_742.trans (nI_add (6 * t9) 4)
  subst ev_742
  refine va_sld hx hb hX hbl hbA hS (vp_in_nI (n := 6 * t9 + 4) (by omega) (by omega)) dL_law_743 ?_
  refine lv_topi (fun v_743 ev_743 => ?_)
  have ev_743 : v_743 = xs (6 * t9 + 4) := ev_743.trans (congrArg xs (nI_clamp (by omega)))
  subst ev_743
  refine lv_aload_n hx hb dL_law_744 rfl (lv_at hl 3 rfl) ?_
  have hPc := hP.sub (ws' := [(ho, .inl (ao, 1, .inr (.inl ou))), (h0, .inr (0, [.int cp, .int cq, .long cs, .int cn, .int dp, .int dq, .int dg, .ref h1, .ref h2])), (h1, .inl (a1, 8, .inl se)), (h2, .inl (a2, 8, .inl pu))]) [0, 1, 2, 3] rfl
  have hDc := hD.sub (ws' := [(ho, .inl (ao, 1, .inr (.inl ou))), (h0, .inr (0, [.int cp, .int cq, .long cs, .int cn, .int dp, .int dq, .int dg, .ref h1, .ref h2])), (h1, .inl (a1, 8, .inl se)), (h2, .inl (a2, 8, .inl pu))]) [0, 1, 2, 3] (by decide) rfl
  have hKc := hK.sub (tys' := [(ao, .long), (a1, .int), (a2, .int)]) [0, 1, 2] rfl
  have hFc := va_free (wc := [(ho, .inl (ao, 1, .inr (.inl ou))), (h0, .inr (0, [.int cp, .int cq, .long cs, .int cn, .int dp, .int dq, .int dg, .ref h1, .ref h2])), (h1, .inl (a1, 8, .inl se)), (h2, .inl (a2, 8, .inl pu))]) hD hS hA [0, 1, 2, 3] rfl
  refine va_calli (vx_runSW (hh := [(0, 12, 15, 30), (0, 12, 19, 15), (0, 12, 23, 44)]) (As := [.ref h0, .int (xs (6 * t9 + 1)), .long (dk_lg (xs (6 * t9 + 2)) (xs (6 * t9 + 3))), .int (xs (6 * t9 + 4)), .ref ho]) (rest := []) ⟨hx, hb, hml, hown, hts⟩ (dk_l_sign l hl9 dC dI h0 h1 h2 a1 a2 ho ao cp cq cs cn dp dq dg se pu ou (xs (6 * t9 + 1)) (dk_lg (xs (6 * t9 + 2)) (xs (6 * t9 + 3))) (xs (6 * t9 + 4)) hR.2.1 hR.2.2.1 _) (vx_cwSW 5 hts gL_law_L_sign rfl rfl rfl (by decide +kernel) ⟨Nat.le_of_ble_eq_true rfl, Nat.le_of_ble_eq_true rfl⟩) ⟨fun a U g mk q => by obtain ⟨q0, q1, qP, qK, qD, qE⟩ := q; exact ⟨q0, q1, qP, va_K.moved (u := U) (U := U.calling g mk a) (Vm.Alike.refl U.vm) qK, qD, qE.blind⟩, fun U hU hW => ⟨rfl, by rw [hU], by rw [hU]; exact hPc, va_K.moved hW.alike hKc, hDc.weaken (fun _ _ _ _ => trivial), hE.go hS hFc hU hW⟩⟩ rfl rfl hl.1 rfl (lv_room (Nat.le_of_ble_eq_true rfl)) dL_law_745 ⟨by show _ ≤ 1041; omega, by show _ ≤ 8305; omega⟩) hS (fun q _ h => hFc q h) hFc (fun r_745 u t H1 locs ht hvm hw hB hz1 hk1 hS => ?_)
  obtain ⟨v, hf, hw⟩ := hw
  obtain ⟨ou2, rfl, hv1⟩ : ∃ ou2 : Nat → Int64, u = ((cp, cq, cs, cn, dp, dq, dg, se, pu), ou2) ∧ (r_745 = 0 → ou2 0 = v) := by
    rcases hw with ⟨q, rfl⟩ | ⟨q, rfl⟩
    · exact ⟨_, rfl, fun _ => rfl⟩
    · exact ⟨_, rfl, fun w9 => absurd w9 q⟩
  obtain ⟨hP1, hK1, hD1⟩ := hB
  rw [ht] at hP1
  have hK1 := va_K.moved hvm.symm hK1
  obtain ⟨hP, hD⟩ := va_join (wr := [(k0, .inr (1, [.int mp, .int mq, .int mo, .int hc, .long ms9, .int kp, .int kq, .int kn, .int dp, .int dq, .int dg, .ref k1, .int th])), (k1, .inl (b1, 8, .inl se))]) (w1 := [(ho, .inl (ao, 1, .inr (.inl ou2))), (h0, .inr (0, [.int cp, .int cq, .long cs, .int cn, .int dp, .int dq, .int dg, .ref h1, .ref h2])), (h1, .inl (a1, 8, .inl se)), (h2, .inl (a2, 8, .inl pu))]) hP hD [0, 1, 2, 3] [4, 5] rfl rfl (by decide) (by decide) hk1 hFc hP1 hD1
  have hK := (hK.sub (tys' := [(b1, .int)]) [3] rfl).app hK1
  generalize H1 = H at hP hS ⊢
  have hP : va_P (dC, dI) vwCl [(k0, .inr (1, [.int mp, .int mq, .int mo, .int hc, .long ms9, .int kp, .int kq, .int kn, .int dp, .int dq, .int dg, .ref k1, .int th])), (k1, .inl (b1, 8, .inl se)), (ho, .inl (ao, 1, .inr (.inl ou2))), (h0, .inr (0, [.int cp, .int cq, .long cs, .int cn, .int dp, .int dq, .int dg, .ref h1, .ref h2])), (h1, .inl (a1, 8, .inl se)), (h2, .inl (a2, 8, .inl pu))] H := hP
  have hD : va_D (fun q : Nat => s.heap.size ≤ q) [(k0, .inr (1, [.int mp, .int mq, .int mo, .int hc, .long ms9, .int kp, .int kq, .int kn, .int dp, .int dq, .int dg, .ref k1, .int th])), (k1, .inl (b1, 8, .inl se)), (ho, .inl (ao, 1, .inr (.inl ou2))), (h0, .inr (0, [.int cp, .int cq, .long cs, .int cn, .int dp, .int dq, .int dg, .ref h1, .ref h2])), (h1, .inl (a1, 8, .inl se)), (h2, .inl (a2, 8, .inl pu))] := hD
  have hK : va_K (dC, dI) vwCl [(b1, .int), (ao, .long), (a1, .int), (a2, .int)] s := hK
  refine lv_istore (lv' := [(5, .int r_745), (0, .ref b), (1, .ref h0), (2, .ref k0), (3, .ref ho), (4, .int (nI (6 * t9)))]) hx hb dL_law_748 hl (by decide) rfl (fun ls hl => ?_)
  refine lv_aload_n hx hb dL_law_750 rfl (lv_at hl 3 rfl) ?_
  refine lv_aload_n hx hb dL_law_751 rfl (lv_at hl 1 rfl) ?_
  refine lv_iload hx hb dL_law_752 (lv_at hl 5 rfl) ?_
  refine lv_iconst (v := 1) hx hb dL_law_754 (by decide) ?_
  refine lv_iadd hx hb dL_law_755 ?_
  refine lv_topi (fun v_755 ev_755 => ?_)
  have ev_755 : v_755 = nI (6 * t9 + 1) := ev_755.trans (nI_add (6 * t9) 1)
  subst ev_755
  refine va_sld hx hb hX hbl hbA hS (vp_in_nI (n := 6 * t9 + 1) (by omega) (by omega)) dL_law_756 ?_
  refine lv_topi (fun v_756 ev_756 => ?_)
  have ev_756 : v_756 = xs (6 * t9 + 1) := ev_756.trans (congrArg xs (nI_clamp (by omega)))
  subst ev_756
  refine lv_aload_n hx hb dL_law_757 rfl (lv_at hl 1 rfl) ?_
  refine lv_iload hx hb dL_law_758 (lv_at hl 5 rfl) ?_
  refine lv_iconst (v := 2) hx hb dL_law_760 (by decide) ?_
  refine lv_iadd hx hb dL_law_761 ?_
  refine lv_topi (fun v_761 ev_761 => ?_)
  have ev_761 : v_761 = nI (6 * t9 + 2) := ev_761.trans (nI_add (6 * t9) 2)
  subst ev_761
  refine va_sld hx hb hX hbl hbA hS (vp_in_nI (n := 6 * t9 + 2) (by omega) (by omega)) dL_law_762 ?_
  refine lv_topi (fun v_762 ev_762 => ?_)
  have ev_762 : v_762 = xs (6 * t9 + 2) := ev_762.trans (congrArg xs (nI_clamp (by omega)))
  subst ev_762
  refine lv_i2l hx hb dL_law_763 rfl ?_
  refine lv_bipush (v := 32) hx hb dL_law_764 (by decide) ?_
  refine lv_lshl hx hb dL_law_766 rfl ?_
  refine lv_aload_n hx hb dL_law_767 rfl (lv_at hl 1 rfl) ?_
  refine lv_iload hx hb dL_law_768 (lv_at hl 5 rfl) ?_
  refine lv_iconst (v := 3) hx hb dL_law_770 (by decide) ?_
  refine lv_iadd hx hb dL_law_771 ?_
  refine lv_topi (fun v_771 ev_771 => ?_)
  have ev_771 : v_771 = nI (6 * t9 + 3) := ev_771.trans (nI_add (6 * t9) 3)
  subst ev_771
  refine va_sld hx hb hX hbl hbA hS (vp_in_nI (n := 6 * t9 + 3) (by omega) (by omega)) dL_law_772 ?_
  refine lv_topi (fun v_772 ev_772 => ?_)
  have ev_772 : v_772 = xs (6 * t9 + 3) := ev_772.trans (congrArg xs (nI_clamp (by omega)))
  subst ev_772
  refine lv_i2l hx hb dL_law_773 rfl ?_
  refine lv_ldc2 (v := 4294967295) hx hb hown (hts (.constantLong RL 57 4294967295) (by decide +kernel)) dL_law_774 ?_
  refine lv_land hx hb dL_law_777 ?_
  refine lv_lor hx hb dL_law_778 ?_
  refine lv_topl (fun v_778 ev_778 => ?_)
  have ev_778 : v_778 = dk_lg (xs (6 * t9 + 2)) (xs (6 * t9 + 3)) := ev_778.trans rfl
  subst ev_778
  refine lv_aload_n hx hb dL_law_779 rfl (lv_at hl 1 rfl) ?_
  refine lv_iload hx hb dL_law_780 (lv_at hl 5 rfl) ?_
  refine lv_iconst (v := 4) hx hb dL_law_782 (by decide) ?_
  refine lv_iadd hx hb dL_law_783 ?_
  refine lv_topi (fun v_783 ev_783 => ?_)
  have ev_783 : v_783 = nI (6 * t9 + 4) := ev_783.trans (nI_add (6 * t9) 4)
  subst ev_783
  refine va_sld hx hb hX hbl hbA hS (vp_in_nI (n := 6 * t9 + 4) (by omega) (by omega)) dL_law_784 ?_
  refine lv_topi (fun v_784 ev_784 => ?_)
  have ev_784 : v_784 = xs (6 * t9 + 4) := ev_784.trans (congrArg xs (nI_clamp (by omega)))
  subst ev_784
  have hPc := hP.sub (ws' := [(k0, .inr (1, [.int mp, .int mq, .int mo, .int hc, .long ms9, .int kp, .int kq, .int kn, .int dp, .int dq, .int dg, .ref k1, .int th])), (k1, .inl (b1, 8, .inl se))]) [0, 1] rfl
  have hDc := hD.sub (ws' := [(k0, .inr (1, [.int mp, .int mq, .int mo, .int hc, .long ms9, .int kp, .int kq, .int kn, .int dp, .int dq, .int dg, .ref k1, .int th])), (k1, .inl (b1, 8, .inl se))]) [0, 1] (by decide) rfl
  have hKc := hK.sub (tys' := [(b1, .int)]) [0] rfl
  have hFc := va_free (wc := [(k0, .inr (1, [.int mp, .int mq, .int mo, .int hc, .long ms9, .int kp, .int kq, .int kn, .int dp, .int dq, .int dg, .ref k1, .int th])), (k1, .inl (b1, 8, .inl se))]) hD hS hA [0, 1] rfl
  refine va_calll (va_runV (As := [.int (xs (6 * t9 + 1)), .long (dk_lg (xs (6 * t9 + 2)) (xs (6 * t9 + 3))), .int (xs (6 * t9 + 4))]) (rest := []) ⟨hx, hb, hml, hown, hts⟩ (dk_m_sign l dC dI k0 k1 b1 mp mq mo hc ms9 kp kq kn dp dq dg th se (xs (6 * t9 + 1)) (dk_lg (xs (6 * t9 + 2)) (xs (6 * t9 + 3))) (xs (6 * t9 + 4)) hR.2.1 hR.km _) (cwV 3 hts gL_law_X1_sign rfl rfl rfl (by decide +kernel) ⟨Nat.le_of_ble_eq_true rfl, Nat.le_of_ble_eq_true rfl⟩) ⟨fun a U g mk q => by obtain ⟨q0, q1, qP, qK, qD⟩ := q; exact ⟨q0, q1, qP, va_K.moved (u := U) (U := U.calling g mk a) (Vm.Alike.refl U.vm) qK, qD⟩, va_recv hKc hPc (ci := 1) (q0 := 0) rfl rfl, fun U hU hW => ⟨rfl, by rw [hU], by rw [hU]; exact hPc, va_K.moved hW.alike hKc, hDc.weaken (fun _ _ _ _ => trivial)⟩⟩ rfl rfl hl.1 rfl (lv_room (Nat.le_of_ble_eq_true rfl)) dL_law_785 ⟨by show _ ≤ 1041; omega, by show _ ≤ 8305; omega⟩) hS (fun q _ h => hFc q h) hFc (fun r_785 u t H1 locs ht hvm hw hB hz1 hk1 hS => ?_)
  obtain ⟨th2, hf2, rfl⟩ := hw
  have hk : th2 = r_745 := congrArg Prod.fst (hf2.symm.trans hf)
  have hv0 : r_785 = v := congrArg Prod.snd (hf2.symm.trans hf)
  subst hv0
  obtain ⟨hP1, hK1, hD1⟩ := hB
  rw [ht] at hP1
  have hK1 := va_K.moved hvm.symm hK1
  obtain ⟨hP, hD⟩ := va_join (wr := [(ho, .inl (ao, 1, .inr (.inl ou2))), (h0, .inr (0, [.int cp, .int cq, .long cs, .int cn, .int dp, .int dq, .int dg, .ref h1, .ref h2])), (h1, .inl (a1, 8, .inl se)), (h2, .inl (a2, 8, .inl pu))]) (w1 := [(k0, .inr (1, [.int mp, .int mq, .int mo, .int hc, .long ms9, .int kp, .int kq, .int kn, .int dp, .int dq, .int dg, .ref k1, .int th2])), (k1, .inl (b1, 8, .inl se))]) hP hD [0, 1] [2, 3, 4, 5] rfl rfl (by decide) (by decide) hk1 hFc hP1 hD1
  have hK := (hK.sub (tys' := [(ao, .long), (a1, .int), (a2, .int)]) [1, 2, 3] rfl).app hK1
  generalize H1 = H at hP hS ⊢
  have hP : va_P (dC, dI) vwCl [(ho, .inl (ao, 1, .inr (.inl ou2))), (h0, .inr (0, [.int cp, .int cq, .long cs, .int cn, .int dp, .int dq, .int dg, .ref h1, .ref h2])), (h1, .inl (a1, 8, .inl se)), (h2, .inl (a2, 8, .inl pu)), (k0, .inr (1, [.int mp, .int mq, .int mo, .int hc, .long ms9, .int kp, .int kq, .int kn, .int dp, .int dq, .int dg, .ref k1, .int th2])), (k1, .inl (b1, 8, .inl se))] H := hP
  have hD : va_D (fun q : Nat => s.heap.size ≤ q) [(ho, .inl (ao, 1, .inr (.inl ou2))), (h0, .inr (0, [.int cp, .int cq, .long cs, .int cn, .int dp, .int dq, .int dg, .ref h1, .ref h2])), (h1, .inl (a1, 8, .inl se)), (h2, .inl (a2, 8, .inl pu)), (k0, .inr (1, [.int mp, .int mq, .int mo, .int hc, .long ms9, .int kp, .int kq, .int kn, .int dp, .int dq, .int dg, .ref k1, .int th2])), (k1, .inl (b1, 8, .inl se))] := hD
  have hK : va_K (dC, dI) vwCl [(ao, .long), (a1, .int), (a2, .int), (b1, .int)] s := hK
  refine lv_lstore (lv' := [(6, .long r_785), (5, .int r_745), (0, .ref b), (1, .ref h0), (2, .ref k0), (3, .ref ho), (4, .int (nI (6 * t9)))]) hx hb dL_law_788 hl (by decide) rfl (fun ls hl => ?_)
  refine lv_aload_n hx hb dL_law_790 rfl (lv_at hl 4 rfl) ?_
  have hPc := hP.sub (ws' := [(k0, .inr (1, [.int mp, .int mq, .int mo, .int hc, .long ms9, .int kp, .int kq, .int kn, .int dp, .int dq, .int dg, .ref k1, .int th2])), (k1, .inl (b1, 8, .inl se))]) [4, 5] rfl
  have hKc := hK.sub (tys' := [(b1, .int)]) [3] rfl
  refine vp_callSi (W.runV (As := []) (rest := []) ⟨hx, hb, hml, hown, hts⟩ (dk_m_thrown l dC dI k0 k1 b1 mp mq mo hc ms9 kp kq kn dp dq dg th2 se ) (cwV 0 hts gL_law_X1_thrown rfl rfl rfl (by decide +kernel) ⟨Nat.le_of_ble_eq_true rfl, Nat.le_of_ble_eq_true rfl⟩) ⟨fun a U g mk q => by obtain ⟨q0, qP, qK⟩ := q; exact ⟨q0, qP, va_K.moved (u := U) (U := U.calling g mk a) (Vm.Alike.refl U.vm) qK⟩, va_recv hKc hPc (ci := 1) (q0 := 0) rfl rfl, fun U hU hW => ⟨rfl, by rw [hU]; exact hPc, va_K.moved hW.alike hKc⟩⟩ rfl rfl hl.1 rfl (lv_room (Nat.le_of_ble_eq_true rfl)) dL_law_791 ⟨by show _ ≤ 1041; omega, by show _ ≤ 8305; omega⟩) (fun r_791 hr_791 => ?_)
  refine lv_iload hx hb dL_law_794 (lv_at hl 1 rfl) ?_
  refine lv_icmp_eq (tgt := 801) hx hb dL_law_796 (by decide) (fun c_796 => ?_) (fun c_796 => ?_)
  · refine lv_iload hx hb dL_law_801 (lv_at hl 1 rfl) ?_
    refine lv_if_ne (tgt := 817) hx hb dL_law_803 (by decide) (fun c_803 => ?_) (fun c_803 => ?_)
    · refine lv_goto (tgt := 1019) hx hb dL_law_817 (by decide) ?_
      exact kk _ _ cp cq cs cn dp dq dg se pu mp mq mo hc ms9 kp kq kn th2 ou2 _ _ ls (by omega) (by omega) hR (hP.sub [0, 1, 2, 3, 4, 5] rfl) (hD.sub [0, 1, 2, 3, 4, 5] (by decide) rfl) hS (lv_sub hl [2, 3, 4, 5, 6] rfl)
    · refine lv_aload_n hx hb dL_law_806 rfl (lv_at hl 5 rfl) ?_
      refine lv_iconst (v := 0) hx hb dL_law_807 (by decide) ?_
      refine va_lald hx hb hK hP 0 0 rfl rfl (vp_in_nI (n := 0) (by decide) (by decide)) dL_law_808 ?_
      refine lv_topl (fun v_808 ev_808 => ?_)
      have ev_808 : v_808 = ou2 0 := ev_808.trans (congrArg ou2 sb_cl0)
      subst ev_808
      refine lv_lload hx hb dL_law_809 (lv_at hl 0 rfl) ?_
      refine W.lcmp hx hb dL_law_811 ?_
      refine lv_if_eq (tgt := 817) hx hb dL_law_812 (by decide) (fun c_812 => ?_) (fun c_812 => ?_)
      · refine lv_goto (tgt := 1019) hx hb dL_law_817 (by decide) ?_
        exact kk _ _ cp cq cs cn dp dq dg se pu mp mq mo hc ms9 kp kq kn th2 ou2 _ _ ls (by omega) (by omega) hR (hP.sub [0, 1, 2, 3, 4, 5] rfl) (hD.sub [0, 1, 2, 3, 4, 5] (by decide) rfl) hS (lv_sub hl [2, 3, 4, 5, 6] rfl)
      · exact absurd ((lg_cmp_eq _ _).mpr (hv1 c_803)) c_812
  · exact absurd (hr_791.trans hk) c_796

set_option maxHeartbeats 4000000 in
set_option maxRecDepth 100000 in
theorem dk_case12 {p : Program} {l : Launch} {e : Env} {s : State} {m : MethodId} {below : List Frame} {meth : Method} {c : Code} {dC : Nat → ClassId} {dI : Nat → Nat → Nat} {b L : Nat} {xs : Nat → Int32} {h0 h1 h2 : Nat} {a1 a2 : ClassId} {k0 k1 : Nat} {b1 : ClassId} {ho : Nat} {ao : ClassId} (hl9 : l.stackTraces = false) (hL : L ≤ 3072) (C0 : lw_At p s m meth c b L xs) (hK : va_K (dC, dI) vwCl [(ao, .long), (a1, .int), (a2, .int), (b1, .int)] s) (hE : dk_E (fun q : Nat => s.heap.size ≤ q) s s.heap) {t9 cb sb : Nat} (ht9 : 6 * t9 + 6 ≤ L) (hcb : cb + 2 ≤ 1041) (hsb : sb + 12 ≤ 8305) (kk : dk_KK p l e s m below meth c dC dI b h0 h1 h2 a1 a2 k0 k1 b1 ho ao t9 (cb + 2) (sb + 12) 1019) : dk_KK p l e s m below meth c dC dI b h0 h1 h2 a1 a2 k0 k1 b1 ho ao t9 cb sb 820 := by
  obtain ⟨hx, hb, hr, hml, hown0, hts0, hX, hbl, hlocks, hgv⟩ := C0
  have hts := fun (w : Cond) (h : w ∈ wsL_law) => hts0 w (wsL_law_in w h)
  have hown : s.vm.findClass RL = some m.cls := hown0
  have hA : ∀ q : Nat, s.heap.size ≤ q → (fun q : Nat => s.heap.size ≤ q) q := fun _ h => h
  have hbA : ¬ (fun q : Nat => s.heap.size ≤ q) b := Nat.not_le.mpr hbl
  intro kc ks cp cq cs cn dp dq dg se pu mp mq mo hc ms9 kp kq kn th ou H locs ls hkc hks hR hP hD hS hl
  refine lv_aload_n hx hb dL_law_820 rfl (lv_at hl 1 rfl) ?_
  refine lv_aload_n hx hb dL_law_821 rfl (lv_at hl 0 rfl) ?_
  refine lv_iload hx hb dL_law_822 (lv_at hl 4 rfl) ?_
  refine lv_iconst (v := 1) hx hb dL_law_824 (by decide) ?_
  refine lv_iadd hx hb dL_law_825 ?_
  refine lv_topi (fun v_825 ev_825 => ?_)
  have ev_825 : v_825 = nI (6 * t9 + 1) := ev_825.trans (nI_add (6 * t9) 1)
  subst ev_825
  refine va_sld hx hb hX hbl hbA hS (vp_in_nI (n := 6 * t9 + 1) (by omega) (by omega)) dL_law_826 ?_
  refine lv_topi (fun v_826 ev_826 => ?_)
  have ev_826 : v_826 = xs (6 * t9 + 1) := ev_826.trans (congrArg xs (nI_clamp (by omega)))
  subst ev_826
  refine lv_aload_n hx hb dL_law_827 rfl (lv_at hl 0 rfl) ?_
  refine lv_iload hx hb dL_law_828 (lv_at hl 4 rfl) ?_
  refine lv_iconst (v := 2) hx hb dL_law_830 (by decide) ?_
  refine lv_iadd hx hb dL_law_831 ?_
  refine lv_topi (fun v_831 ev_831 => ?_)
  have ev_831 : v_831 = nI (6 * t9 + 2) := ev_831.trans (nI_add (6 * t9) 2)
  subst ev_831
  refine va_sld hx hb hX hbl hbA hS (vp_in_nI (n := 6 * t9 + 2) (by omega) (by omega)) dL_law_832 ?_
  refine lv_topi (fun v_832 ev_832 => ?_)
  have ev_832 : v_832 = xs (6 * t9 + 2) := ev_832.trans (congrArg xs (nI_clamp (by omega)))
  subst ev_832
  refine lv_i2l hx hb dL_law_833 rfl ?_
  refine lv_bipush (v := 32) hx hb dL_law_834 (by decide) ?_
  refine lv_lshl hx hb dL_law_836 rfl ?_
  refine lv_aload_n hx hb dL_law_837 rfl (lv_at hl 0 rfl) ?_
  refine lv_iload hx hb dL_law_838 (lv_at hl 4 rfl) ?_
  refine lv_iconst (v := 3) hx hb dL_law_840 (by decide) ?_
  refine lv_iadd hx hb dL_law_841 ?_
  refine lv_topi (fun v_841 ev_841 => ?_)
  have ev_841 : v_841 = nI (6 * t9 + 3) := ev_841.trans (nI_add (6 * t9) 3)
  subst ev_841
  refine va_sld hx hb hX hbl hbA hS (vp_in_nI (n := 6 * t9 + 3) (by omega) (by omega)) dL_law_842 ?_
  refine lv_topi (fun v_842 ev_842 => ?_)
  have ev_842 : v_842 = xs (6 * t9 + 3) := ev_842.trans (congrArg xs (nI_clamp (by omega)))
  subst ev_842
  refine lv_i2l hx hb dL_law_843 rfl ?_
  refine lv_ldc2 (v := 4294967295) hx hb hown (hts (.constantLong RL 57 4294967295) (by decide +kernel)) dL_law_844 ?_
  refine lv_land hx hb dL_law_847 ?_
  refine lv_lor hx hb dL_law_848 ?_
  refine lv_topl (fun v_848 ev_848 => ?_)
  have ev_848 : v_848 = dk_lg (xs (6 * t9 + 2)) (xs (6 * t9 + 3)) := ev_848.trans rfl
  subst ev_848
  refine lv_aload_n hx hb dL_law_849 rfl (lv_at hl 0 rfl) ?_
  refine lv_iload hx hb dL_law_850 (lv_at hl 4 rfl) ?_
  refine lv_iconst (v := 4) hx hb dL_law_852 (by decide) ?_
  refine lv_iadd hx hb dL_law_853 ?_
  refine lv_topi (fun v_853 ev_853 => ?_)
  have ev_853 : v_853 = nI (6 * t9 + 4) := ev_853.trans (nI_add (6 * t9) 4)
  subst ev_853
  refine va_sld hx hb hX hbl hbA hS (vp_in_nI (n := 6 * t9 + 4) (by omega) (by omega)) dL_law_854 ?_
  refine lv_topi (fun v_854 ev_854 => ?_)
  have ev_854 : v_854 = xs (6 * t9 + 4) := ev_854.trans (congrArg xs (nI_clamp (by omega)))
  subst ev_854
  refine lv_aload_n hx hb dL_law_855 rfl (lv_at hl 0 rfl) ?_
  refine lv_iload hx hb dL_law_856 (lv_at hl 4 rfl) ?_
  refine lv_iconst (v := 5) hx hb dL_law_858 (by decide) ?_
  refine lv_iadd hx hb dL_law_859 ?_
  refine lv_topi (fun v_859 ev_859 => ?_)
  have ev_859 : v_859 = nI (6 * t9 + 5) := ev_859.trans (nI_add (6 * t9) 5)
  subst ev_859
  refine va_sld hx hb hX hbl hbA hS (vp_in_nI (n := 6 * t9 + 5) (by omega) (by omega)) dL_law_860 ?_
  refine lv_topi (fun v_860 ev_860 => ?_)
  have ev_860 : v_860 = xs (6 * t9 + 5) := ev_860.trans (congrArg xs (nI_clamp (by omega)))
  subst ev_860
  refine lv_aload_n hx hb dL_law_861 rfl (lv_at hl 3 rfl) ?_
  have hPc := hP.sub (ws' := [(ho, .inl (ao, 1, .inr (.inl ou))), (h0, .inr (0, [.int cp, .int cq, .long cs, .int cn, .int dp, .int dq, .int dg, .ref h1, .ref h2])), (h1, .inl (a1, 8, .inl se)), (h2, .inl (a2, 8, .inl pu))]) [0, 1, 2, 3] rfl
  have hDc := hD.sub (ws' := [(ho, .inl (ao, 1, .inr (.inl ou))), (h0, .inr (0, [.int cp, .int cq, .long cs, .int cn, .int dp, .int dq, .int dg, .ref h1, .ref h2])), (h1, .inl (a1, 8, .inl se)), (h2, .inl (a2, 8, .inl pu))]) [0, 1, 2, 3] (by decide) rfl
  have hKc := hK.sub (tys' := [(ao, .long), (a1, .int), (a2, .int)]) [0, 1, 2] rfl
  have hFc := va_free (wc := [(ho, .inl (ao, 1, .inr (.inl ou))), (h0, .inr (0, [.int cp, .int cq, .long cs, .int cn, .int dp, .int dq, .int dg, .ref h1, .ref h2])), (h1, .inl (a1, 8, .inl se)), (h2, .inl (a2, 8, .inl pu))]) hD hS hA [0, 1, 2, 3] rfl
  refine va_calli (vx_runSW (hh := [(0, 22, 25, 13)]) (As := [.ref h0, .int (xs (6 * t9 + 1)), .long (dk_lg (xs (6 * t9 + 2)) (xs (6 * t9 + 3))), .int (xs (6 * t9 + 4)), .int (xs (6 * t9 + 5)), .ref ho]) (rest := []) ⟨hx, hb, hml, hown, hts⟩ (dk_l_verify l hl9 dC dI h0 h1 h2 a1 a2 ho ao cp cq cs cn dp dq dg se pu ou (xs (6 * t9 + 1)) (dk_lg (xs (6 * t9 + 2)) (xs (6 * t9 + 3))) (xs (6 * t9 + 4)) (xs (6 * t9 + 5)) hR.2.1 _) (vx_cwSW 6 hts gL_law_L_verify rfl rfl rfl (by decide +kernel) ⟨Nat.le_of_ble_eq_true rfl, Nat.le_of_ble_eq_true rfl⟩) ⟨fun a U g mk q => by obtain ⟨q0, q1, qP, qK, qD, qE⟩ := q; exact ⟨q0, q1, qP, va_K.moved (u := U) (U := U.calling g mk a) (Vm.Alike.refl U.vm) qK, qD, qE.blind⟩, fun U hU hW => ⟨rfl, by rw [hU], by rw [hU]; exact hPc, va_K.moved hW.alike hKc, hDc.weaken (fun _ _ _ _ => trivial), hE.go hS hFc hU hW⟩⟩ rfl rfl hl.1 rfl (lv_room (Nat.le_of_ble_eq_true rfl)) dL_law_862 ⟨by show _ ≤ 1041; omega, by show _ ≤ 8305; omega⟩) hS (fun q _ h => hFc q h) hFc (fun r_862 u t H1 locs ht hvm hw hB hz1 hk1 hS => ?_)
  obtain ⟨v, hf, hw⟩ := hw
  obtain ⟨ou2, rfl, hv1⟩ : ∃ ou2 : Nat → Int64, u = ((cp, cq, cs, cn, dp, dq, dg, se, pu), ou2) ∧ (r_862 = 0 → ou2 0 = (if v = 0 then 0 else 1)) := by
    rcases hw with ⟨q, rfl⟩ | ⟨q, rfl⟩
    · exact ⟨_, rfl, fun _ => rfl⟩
    · exact ⟨_, rfl, fun w9 => absurd w9 q⟩
  obtain ⟨hP1, hK1, hD1⟩ := hB
  rw [ht] at hP1
  have hK1 := va_K.moved hvm.symm hK1
  obtain ⟨hP, hD⟩ := va_join (wr := [(k0, .inr (1, [.int mp, .int mq, .int mo, .int hc, .long ms9, .int kp, .int kq, .int kn, .int dp, .int dq, .int dg, .ref k1, .int th])), (k1, .inl (b1, 8, .inl se))]) (w1 := [(ho, .inl (ao, 1, .inr (.inl ou2))), (h0, .inr (0, [.int cp, .int cq, .long cs, .int cn, .int dp, .int dq, .int dg, .ref h1, .ref h2])), (h1, .inl (a1, 8, .inl se)), (h2, .inl (a2, 8, .inl pu))]) hP hD [0, 1, 2, 3] [4, 5] rfl rfl (by decide) (by decide) hk1 hFc hP1 hD1
  have hK := (hK.sub (tys' := [(b1, .int)]) [3] rfl).app hK1
  generalize H1 = H at hP hS ⊢
  have hP : va_P (dC, dI) vwCl [(k0, .inr (1, [.int mp, .int mq, .int mo, .int hc, .long ms9, .int kp, .int kq, .int kn, .int dp, .int dq, .int dg, .ref k1, .int th])), (k1, .inl (b1, 8, .inl se)), (ho, .inl (ao, 1, .inr (.inl ou2))), (h0, .inr (0, [.int cp, .int cq, .long cs, .int cn, .int dp, .int dq, .int dg, .ref h1, .ref h2])), (h1, .inl (a1, 8, .inl se)), (h2, .inl (a2, 8, .inl pu))] H := hP
  have hD : va_D (fun q : Nat => s.heap.size ≤ q) [(k0, .inr (1, [.int mp, .int mq, .int mo, .int hc, .long ms9, .int kp, .int kq, .int kn, .int dp, .int dq, .int dg, .ref k1, .int th])), (k1, .inl (b1, 8, .inl se)), (ho, .inl (ao, 1, .inr (.inl ou2))), (h0, .inr (0, [.int cp, .int cq, .long cs, .int cn, .int dp, .int dq, .int dg, .ref h1, .ref h2])), (h1, .inl (a1, 8, .inl se)), (h2, .inl (a2, 8, .inl pu))] := hD
  have hK : va_K (dC, dI) vwCl [(b1, .int), (ao, .long), (a1, .int), (a2, .int)] s := hK
  refine lv_istore (lv' := [(5, .int r_862), (0, .ref b), (1, .ref h0), (2, .ref k0), (3, .ref ho), (4, .int (nI (6 * t9)))]) hx hb dL_law_865 hl (by decide) rfl (fun ls hl => ?_)
  refine lv_aload_n hx hb dL_law_867 rfl (lv_at hl 3 rfl) ?_
  refine lv_aload_n hx hb dL_law_868 rfl (lv_at hl 1 rfl) ?_
  refine lv_iload hx hb dL_law_869 (lv_at hl 5 rfl) ?_
  refine lv_iconst (v := 1) hx hb dL_law_871 (by decide) ?_
  refine lv_iadd hx hb dL_law_872 ?_
  refine lv_topi (fun v_872 ev_872 => ?_)
  have ev_872 : v_872 = nI (6 * t9 + 1) := ev_872.trans (nI_add (6 * t9) 1)
  subst ev_872
  refine va_sld hx hb hX hbl hbA hS (vp_in_nI (n := 6 * t9 + 1) (by omega) (by omega)) dL_law_873 ?_
  refine lv_topi (fun v_873 ev_873 => ?_)
  have ev_873 : v_873 = xs (6 * t9 + 1) := ev_873.trans (congrArg xs (nI_clamp (by omega)))
  subst ev_873
  refine lv_aload_n hx hb dL_law_874 rfl (lv_at hl 1 rfl) ?_
  refine lv_iload hx hb dL_law_875 (lv_at hl 5 rfl) ?_
  refine lv_iconst (v := 2) hx hb dL_law_877 (by decide) ?_
  refine lv_iadd hx hb dL_law_878 ?_
  refine lv_topi (fun v_878 ev_878 => ?_)
  have ev_878 : v_878 = nI (6 * t9 + 2) := ev_878.trans (nI_add (6 * t9) 2)
  subst ev_878
  refine va_sld hx hb hX hbl hbA hS (vp_in_nI (n := 6 * t9 + 2) (by omega) (by omega)) dL_law_879 ?_
  refine lv_topi (fun v_879 ev_879 => ?_)
  have ev_879 : v_879 = xs (6 * t9 + 2) := ev_879.trans (congrArg xs (nI_clamp (by omega)))
  subst ev_879
  refine lv_i2l hx hb dL_law_880 rfl ?_
  refine lv_bipush (v := 32) hx hb dL_law_881 (by decide) ?_
  refine lv_lshl hx hb dL_law_883 rfl ?_
  refine lv_aload_n hx hb dL_law_884 rfl (lv_at hl 1 rfl) ?_
  refine lv_iload hx hb dL_law_885 (lv_at hl 5 rfl) ?_
  refine lv_iconst (v := 3) hx hb dL_law_887 (by decide) ?_
  refine lv_iadd hx hb dL_law_888 ?_
  refine lv_topi (fun v_888 ev_888 => ?_)
  have ev_888 : v_888 = nI (6 * t9 + 3) := ev_888.trans (nI_add (6 * t9) 3)
  subst ev_888
  refine va_sld hx hb hX hbl hbA hS (vp_in_nI (n := 6 * t9 + 3) (by omega) (by omega)) dL_law_889 ?_
  refine lv_topi (fun v_889 ev_889 => ?_)
  have ev_889 : v_889 = xs (6 * t9 + 3) := ev_889.trans (congrArg xs (nI_clamp (by omega)))
  subst ev_889
  refine lv_i2l hx hb dL_law_890 rfl ?_
  refine lv_ldc2 (v := 4294967295) hx hb hown (hts (.constantLong RL 57 4294967295) (by decide +kernel)) dL_law_891 ?_
  refine lv_land hx hb dL_law_894 ?_
  refine lv_lor hx hb dL_law_895 ?_
  refine lv_topl (fun v_895 ev_895 => ?_)
  have ev_895 : v_895 = dk_lg (xs (6 * t9 + 2)) (xs (6 * t9 + 3)) := ev_895.trans rfl
  subst ev_895
  refine lv_aload_n hx hb dL_law_896 rfl (lv_at hl 1 rfl) ?_
  refine lv_iload hx hb dL_law_897 (lv_at hl 5 rfl) ?_
  refine lv_iconst (v := 4) hx hb dL_law_899 (by decide) ?_
  refine lv_iadd hx hb dL_law_900 ?_
  refine lv_topi (fun v_900 ev_900 => ?_)
  have ev_900 : v_900 = nI (6 * t9 + 4) := ev_900.trans (nI_add (6 * t9) 4)
  subst ev_900
  refine va_sld hx hb hX hbl hbA hS (vp_in_nI (n := 6 * t9 + 4) (by omega) (by omega)) dL_law_901 ?_
  refine lv_topi (fun v_901 ev_901 => ?_)
  have ev_901 : v_901 = xs (6 * t9 + 4) := ev_901.trans (congrArg xs (nI_clamp (by omega)))
  subst ev_901
  refine lv_aload_n hx hb dL_law_902 rfl (lv_at hl 1 rfl) ?_
  refine lv_iload hx hb dL_law_903 (lv_at hl 5 rfl) ?_
  refine lv_iconst (v := 5) hx hb dL_law_905 (by decide) ?_
  refine lv_iadd hx hb dL_law_906 ?_
  refine lv_topi (fun v_906 ev_906 => ?_)
  have ev_906 : v_906 = nI (6 * t9 + 5) := ev_906.trans (nI_add (6 * t9) 5)
  subst ev_906
  refine va_sld hx hb hX hbl hbA hS (vp_in_nI (n := 6 * t9 + 5) (by omega) (by omega)) dL_law_907 ?_
  refine lv_topi (fun v_907 ev_907 => ?_)
  have ev_907 : v_907 = xs (6 * t9 + 5) := ev_907.trans (congrArg xs (nI_clamp (by omega)))
  subst ev_907
  have hPc := hP.sub (ws' := [(k0, .inr (1, [.int mp, .int mq, .int mo, .int hc, .long ms9, .int kp, .int kq, .int kn, .int dp, .int dq, .int dg, .ref k1, .int th])), (k1, .inl (b1, 8, .inl se))]) [0, 1] rfl
  have hDc := hD.sub (ws' := [(k0, .inr (1, [.int mp, .int mq, .int mo, .int hc, .long ms9, .int kp, .int kq, .int kn, .int dp, .int dq, .int dg, .ref k1, .int th])), (k1, .inl (b1, 8, .inl se))]) [0, 1] (by decide) rfl
  have hKc := hK.sub (tys' := [(b1, .int)]) [0] rfl
  have hFc := va_free (wc := [(k0, .inr (1, [.int mp, .int mq, .int mo, .int hc, .long ms9, .int kp, .int kq, .int kn, .int dp, .int dq, .int dg, .ref k1, .int th])), (k1, .inl (b1, 8, .inl se))]) hD hS hA [0, 1] rfl
  refine va_calli (va_runV (As := [.int (xs (6 * t9 + 1)), .long (dk_lg (xs (6 * t9 + 2)) (xs (6 * t9 + 3))), .int (xs (6 * t9 + 4)), .int (xs (6 * t9 + 5))]) (rest := []) ⟨hx, hb, hml, hown, hts⟩ (dk_m_verify l dC dI k0 k1 b1 mp mq mo hc ms9 kp kq kn dp dq dg th se (xs (6 * t9 + 1)) (dk_lg (xs (6 * t9 + 2)) (xs (6 * t9 + 3))) (xs (6 * t9 + 4)) (xs (6 * t9 + 5)) hR.2.1 _) (cwV 4 hts gL_law_X1_verify rfl rfl rfl (by decide +kernel) ⟨Nat.le_of_ble_eq_true rfl, Nat.le_of_ble_eq_true rfl⟩) ⟨fun a U g mk q => by obtain ⟨q0, q1, qP, qK, qD⟩ := q; exact ⟨q0, q1, qP, va_K.moved (u := U) (U := U.calling g mk a) (Vm.Alike.refl U.vm) qK, qD⟩, va_recv hKc hPc (ci := 1) (q0 := 0) rfl rfl, fun U hU hW => ⟨rfl, by rw [hU], by rw [hU]; exact hPc, va_K.moved hW.alike hKc, hDc.weaken (fun _ _ _ _ => trivial)⟩⟩ rfl rfl hl.1 rfl (lv_room (Nat.le_of_ble_eq_true rfl)) dL_law_908 ⟨by show _ ≤ 1041; omega, by show _ ≤ 8305; omega⟩) hS (fun q _ h => hFc q h) hFc (fun r_908 u t H1 locs ht hvm hw hB hz1 hk1 hS => ?_)
  obtain ⟨th2, hf2, rfl⟩ := hw
  have hk : th2 = r_862 := congrArg Prod.fst (hf2.symm.trans hf)
  have hv0 : r_908 = v := congrArg Prod.snd (hf2.symm.trans hf)
  subst hv0
  obtain ⟨hP1, hK1, hD1⟩ := hB
  rw [ht] at hP1
  have hK1 := va_K.moved hvm.symm hK1
  obtain ⟨hP, hD⟩ := va_join (wr := [(ho, .inl (ao, 1, .inr (.inl ou2))), (h0, .inr (0, [.int cp, .int cq, .long cs, .int cn, .int dp, .int dq, .int dg, .ref h1, .ref h2])), (h1, .inl (a1, 8, .inl se)), (h2, .inl (a2, 8, .inl pu))]) (w1 := [(k0, .inr (1, [.int mp, .int mq, .int mo, .int hc, .long ms9, .int kp, .int kq, .int kn, .int dp, .int dq, .int dg, .ref k1, .int th2])), (k1, .inl (b1, 8, .inl se))]) hP hD [0, 1] [2, 3, 4, 5] rfl rfl (by decide) (by decide) hk1 hFc hP1 hD1
  have hK := (hK.sub (tys' := [(ao, .long), (a1, .int), (a2, .int)]) [1, 2, 3] rfl).app hK1
  generalize H1 = H at hP hS ⊢
  have hP : va_P (dC, dI) vwCl [(ho, .inl (ao, 1, .inr (.inl ou2))), (h0, .inr (0, [.int cp, .int cq, .long cs, .int cn, .int dp, .int dq, .int dg, .ref h1, .ref h2])), (h1, .inl (a1, 8, .inl se)), (h2, .inl (a2, 8, .inl pu)), (k0, .inr (1, [.int mp, .int mq, .int mo, .int hc, .long ms9, .int kp, .int kq, .int kn, .int dp, .int dq, .int dg, .ref k1, .int th2])), (k1, .inl (b1, 8, .inl se))] H := hP
  have hD : va_D (fun q : Nat => s.heap.size ≤ q) [(ho, .inl (ao, 1, .inr (.inl ou2))), (h0, .inr (0, [.int cp, .int cq, .long cs, .int cn, .int dp, .int dq, .int dg, .ref h1, .ref h2])), (h1, .inl (a1, 8, .inl se)), (h2, .inl (a2, 8, .inl pu)), (k0, .inr (1, [.int mp, .int mq, .int mo, .int hc, .long ms9, .int kp, .int kq, .int kn, .int dp, .int dq, .int dg, .ref k1, .int th2])), (k1, .inl (b1, 8, .inl se))] := hD
  have hK : va_K (dC, dI) vwCl [(ao, .long), (a1, .int), (a2, .int), (b1, .int)] s := hK
  refine lv_istore (lv' := [(6, .int r_908), (5, .int r_862), (0, .ref b), (1, .ref h0), (2, .ref k0), (3, .ref ho), (4, .int (nI (6 * t9)))]) hx hb dL_law_911 hl (by decide) rfl (fun ls hl => ?_)
  refine lv_aload_n hx hb dL_law_913 rfl (lv_at hl 4 rfl) ?_
  have hPc := hP.sub (ws' := [(k0, .inr (1, [.int mp, .int mq, .int mo, .int hc, .long ms9, .int kp, .int kq, .int kn, .int dp, .int dq, .int dg, .ref k1, .int th2])), (k1, .inl (b1, 8, .inl se))]) [4, 5] rfl
  have hKc := hK.sub (tys' := [(b1, .int)]) [3] rfl
  refine vp_callSi (W.runV (As := []) (rest := []) ⟨hx, hb, hml, hown, hts⟩ (dk_m_thrown l dC dI k0 k1 b1 mp mq mo hc ms9 kp kq kn dp dq dg th2 se ) (cwV 0 hts gL_law_X1_thrown rfl rfl rfl (by decide +kernel) ⟨Nat.le_of_ble_eq_true rfl, Nat.le_of_ble_eq_true rfl⟩) ⟨fun a U g mk q => by obtain ⟨q0, qP, qK⟩ := q; exact ⟨q0, qP, va_K.moved (u := U) (U := U.calling g mk a) (Vm.Alike.refl U.vm) qK⟩, va_recv hKc hPc (ci := 1) (q0 := 0) rfl rfl, fun U hU hW => ⟨rfl, by rw [hU]; exact hPc, va_K.moved hW.alike hKc⟩⟩ rfl rfl hl.1 rfl (lv_room (Nat.le_of_ble_eq_true rfl)) dL_law_914 ⟨by show _ ≤ 1041; omega, by show _ ≤ 8305; omega⟩) (fun r_914 hr_914 => ?_)
  refine lv_iload hx hb dL_law_917 (lv_at hl 1 rfl) ?_
  refine lv_icmp_eq (tgt := 924) hx hb dL_law_919 (by decide) (fun c_919 => ?_) (fun c_919 => ?_)
  · refine lv_iload hx hb dL_law_924 (lv_at hl 1 rfl) ?_
    refine lv_if_ne (tgt := 948) hx hb dL_law_926 (by decide) (fun c_926 => ?_) (fun c_926 => ?_)
    · refine lv_goto (tgt := 1019) hx hb dL_law_948 (by decide) ?_
      exact kk _ _ cp cq cs cn dp dq dg se pu mp mq mo hc ms9 kp kq kn th2 ou2 _ _ ls (by omega) (by omega) hR (hP.sub [0, 1, 2, 3, 4, 5] rfl) (hD.sub [0, 1, 2, 3, 4, 5] (by decide) rfl) hS (lv_sub hl [2, 3, 4, 5, 6] rfl)
    · refine lv_aload_n hx hb dL_law_929 rfl (lv_at hl 5 rfl) ?_
      refine lv_iconst (v := 0) hx hb dL_law_930 (by decide) ?_
      refine va_lald hx hb hK hP 0 0 rfl rfl (vp_in_nI (n := 0) (by decide) (by decide)) dL_law_931 ?_
      refine lv_topl (fun v_931 ev_931 => ?_)
      have ev_931 : v_931 = ou2 0 := ev_931.trans (congrArg ou2 sb_cl0)
      subst ev_931
      refine lv_iload hx hb dL_law_932 (lv_at hl 0 rfl) ?_
      refine lv_if_eq (tgt := 941) hx hb dL_law_934 (by decide) (fun c_934 => ?_) (fun c_934 => ?_)
      · refine lv_lconst (v := 0) hx hb dL_law_941 (by decide) ?_
        refine W.lcmp hx hb dL_law_942 ?_
        refine lv_if_eq (tgt := 948) hx hb dL_law_943 (by decide) (fun c_943 => ?_) (fun c_943 => ?_)
        · refine lv_goto (tgt := 1019) hx hb dL_law_948 (by decide) ?_
          exact kk _ _ cp cq cs cn dp dq dg se pu mp mq mo hc ms9 kp kq kn th2 ou2 _ _ ls (by omega) (by omega) hR (hP.sub [0, 1, 2, 3, 4, 5] rfl) (hD.sub [0, 1, 2, 3, 4, 5] (by decide) rfl) hS (lv_sub hl [2, 3, 4, 5, 6] rfl)
        · exact absurd ((lg_cmp_eq _ _).mpr ((hv1 c_926).trans (if_pos c_934))) c_943
      · refine lv_lconst (v := 1) hx hb dL_law_937 (by decide) ?_
        refine lv_goto (tgt := 942) hx hb dL_law_938 (by decide) ?_
        refine W.lcmp hx hb dL_law_942 ?_
        refine lv_if_eq (tgt := 948) hx hb dL_law_943 (by decide) (fun c_943 => ?_) (fun c_943 => ?_)
        · refine lv_goto (tgt := 1019) hx hb dL_law_948 (by decide) ?_
          exact kk _ _ cp cq cs cn dp dq dg se pu mp mq mo hc ms9 kp kq kn th2 ou2 _ _ ls (by omega) (by omega) hR (hP.sub [0, 1, 2, 3, 4, 5] rfl) (hD.sub [0, 1, 2, 3, 4, 5] (by decide) rfl) hS (lv_sub hl [2, 3, 4, 5, 6] rfl)
        · exact absurd ((lg_cmp_eq _ _).mpr ((hv1 c_926).trans (if_neg c_934))) c_943
  · exact absurd (hr_914.trans hk) c_919

set_option maxHeartbeats 4000000 in
set_option maxRecDepth 100000 in
theorem dk_case13 {p : Program} {l : Launch} {e : Env} {s : State} {m : MethodId} {below : List Frame} {meth : Method} {c : Code} {dC : Nat → ClassId} {dI : Nat → Nat → Nat} {b L : Nat} {xs : Nat → Int32} {h0 h1 h2 : Nat} {a1 a2 : ClassId} {k0 k1 : Nat} {b1 : ClassId} {ho : Nat} {ao : ClassId} (hl9 : l.stackTraces = false) (hL : L ≤ 3072) (C0 : lw_At p s m meth c b L xs) (hK : va_K (dC, dI) vwCl [(ao, .long), (a1, .int), (a2, .int), (b1, .int)] s) (hE : dk_E (fun q : Nat => s.heap.size ≤ q) s s.heap) {t9 cb sb : Nat} (ht9 : 6 * t9 + 6 ≤ L) (hcb : cb + 2 ≤ 1041) (hsb : sb + 12 ≤ 8305) (kk : dk_KK p l e s m below meth c dC dI b h0 h1 h2 a1 a2 k0 k1 b1 ho ao t9 (cb + 2) (sb + 12) 1019) : dk_KK p l e s m below meth c dC dI b h0 h1 h2 a1 a2 k0 k1 b1 ho ao t9 cb sb 951 := by
  obtain ⟨hx, hb, hr, hml, hown0, hts0, hX, hbl, hlocks, hgv⟩ := C0
  have hts := fun (w : Cond) (h : w ∈ wsL_law) => hts0 w (wsL_law_in w h)
  have hown : s.vm.findClass RL = some m.cls := hown0
  have hA : ∀ q : Nat, s.heap.size ≤ q → (fun q : Nat => s.heap.size ≤ q) q := fun _ h => h
  have hbA : ¬ (fun q : Nat => s.heap.size ≤ q) b := Nat.not_le.mpr hbl
  intro kc ks cp cq cs cn dp dq dg se pu mp mq mo hc ms9 kp kq kn th ou H locs ls hkc hks hR hP hD hS hl
  refine lv_aload_n hx hb dL_law_951 rfl (lv_at hl 1 rfl) ?_
  refine lv_aload_n hx hb dL_law_952 rfl (lv_at hl 0 rfl) ?_
  refine lv_iload hx hb dL_law_953 (lv_at hl 4 rfl) ?_
  refine lv_iconst (v := 1) hx hb dL_law_955 (by decide) ?_
  refine lv_iadd hx hb dL_law_956 ?_
  refine lv_topi (fun v_956 ev_956 => ?_)
  have ev_956 : v_956 = nI (6 * t9 + 1) := ev_956.trans (nI_add (6 * t9) 1)
  subst ev_956
  refine va_sld hx hb hX hbl hbA hS (vp_in_nI (n := 6 * t9 + 1) (by omega) (by omega)) dL_law_957 ?_
  refine lv_topi (fun v_957 ev_957 => ?_)
  have ev_957 : v_957 = xs (6 * t9 + 1) := ev_957.trans (congrArg xs (nI_clamp (by omega)))
  subst ev_957
  refine lv_aload_n hx hb dL_law_958 rfl (lv_at hl 0 rfl) ?_
  refine lv_iload hx hb dL_law_959 (lv_at hl 4 rfl) ?_
  refine lv_iconst (v := 2) hx hb dL_law_961 (by decide) ?_
  refine lv_iadd hx hb dL_law_962 ?_
  refine lv_topi (fun v_962 ev_962 => ?_)
  have ev_962 : v_962 = nI (6 * t9 + 2) := ev_962.trans (nI_add (6 * t9) 2)
  subst ev_962
  refine va_sld hx hb hX hbl hbA hS (vp_in_nI (n := 6 * t9 + 2) (by omega) (by omega)) dL_law_963 ?_
  refine lv_topi (fun v_963 ev_963 => ?_)
  have ev_963 : v_963 = xs (6 * t9 + 2) := ev_963.trans (congrArg xs (nI_clamp (by omega)))
  subst ev_963
  refine lv_aload_n hx hb dL_law_964 rfl (lv_at hl 3 rfl) ?_
  have hPc := hP.sub (ws' := [(ho, .inl (ao, 1, .inr (.inl ou))), (h0, .inr (0, [.int cp, .int cq, .long cs, .int cn, .int dp, .int dq, .int dg, .ref h1, .ref h2])), (h1, .inl (a1, 8, .inl se)), (h2, .inl (a2, 8, .inl pu))]) [0, 1, 2, 3] rfl
  have hDc := hD.sub (ws' := [(ho, .inl (ao, 1, .inr (.inl ou))), (h0, .inr (0, [.int cp, .int cq, .long cs, .int cn, .int dp, .int dq, .int dg, .ref h1, .ref h2])), (h1, .inl (a1, 8, .inl se)), (h2, .inl (a2, 8, .inl pu))]) [0, 1, 2, 3] (by decide) rfl
  have hKc := hK.sub (tys' := [(ao, .long), (a1, .int), (a2, .int)]) [0, 1, 2] rfl
  have hFc := va_free (wc := [(ho, .inl (ao, 1, .inr (.inl ou))), (h0, .inr (0, [.int cp, .int cq, .long cs, .int cn, .int dp, .int dq, .int dg, .ref h1, .ref h2])), (h1, .inl (a1, 8, .inl se)), (h2, .inl (a2, 8, .inl pu))]) hD hS hA [0, 1, 2, 3] rfl
  refine va_calli (vx_runSW (hh := [(0, 10, 13, 30), (0, 10, 17, 15), (0, 10, 21, 44)]) (As := [.ref h0, .int (xs (6 * t9 + 1)), .int (xs (6 * t9 + 2)), .ref ho]) (rest := []) ⟨hx, hb, hml, hown, hts⟩ (dk_l_agree l hl9 dC dI h0 h1 h2 a1 a2 ho ao cp cq cs cn dp dq dg se pu ou (xs (6 * t9 + 1)) (xs (6 * t9 + 2)) hR.2.1 hR.2.2.1 _) (vx_cwSW 4 hts gL_law_L_agree rfl rfl rfl (by decide +kernel) ⟨Nat.le_of_ble_eq_true rfl, Nat.le_of_ble_eq_true rfl⟩) ⟨fun a U g mk q => by obtain ⟨q0, q1, qP, qK, qD, qE⟩ := q; exact ⟨q0, q1, qP, va_K.moved (u := U) (U := U.calling g mk a) (Vm.Alike.refl U.vm) qK, qD, qE.blind⟩, fun U hU hW => ⟨rfl, by rw [hU], by rw [hU]; exact hPc, va_K.moved hW.alike hKc, hDc.weaken (fun _ _ _ _ => trivial), hE.go hS hFc hU hW⟩⟩ rfl rfl hl.1 rfl (lv_room (Nat.le_of_ble_eq_true rfl)) dL_law_965 ⟨by show _ ≤ 1041; omega, by show _ ≤ 8305; omega⟩) hS (fun q _ h => hFc q h) hFc (fun r_965 u t H1 locs ht hvm hw hB hz1 hk1 hS => ?_)
  obtain ⟨v, hf, hw⟩ := hw
  obtain ⟨ou2, rfl, hv1⟩ : ∃ ou2 : Nat → Int64, u = ((cp, cq, cs, cn, dp, dq, dg, se, pu), ou2) ∧ (r_965 = 0 → ou2 0 = v.toInt64) := by
    rcases hw with ⟨q, rfl⟩ | ⟨q, rfl⟩
    · exact ⟨_, rfl, fun _ => rfl⟩
    · exact ⟨_, rfl, fun w9 => absurd w9 q⟩
  obtain ⟨hP1, hK1, hD1⟩ := hB
  rw [ht] at hP1
  have hK1 := va_K.moved hvm.symm hK1
  obtain ⟨hP, hD⟩ := va_join (wr := [(k0, .inr (1, [.int mp, .int mq, .int mo, .int hc, .long ms9, .int kp, .int kq, .int kn, .int dp, .int dq, .int dg, .ref k1, .int th])), (k1, .inl (b1, 8, .inl se))]) (w1 := [(ho, .inl (ao, 1, .inr (.inl ou2))), (h0, .inr (0, [.int cp, .int cq, .long cs, .int cn, .int dp, .int dq, .int dg, .ref h1, .ref h2])), (h1, .inl (a1, 8, .inl se)), (h2, .inl (a2, 8, .inl pu))]) hP hD [0, 1, 2, 3] [4, 5] rfl rfl (by decide) (by decide) hk1 hFc hP1 hD1
  have hK := (hK.sub (tys' := [(b1, .int)]) [3] rfl).app hK1
  generalize H1 = H at hP hS ⊢
  have hP : va_P (dC, dI) vwCl [(k0, .inr (1, [.int mp, .int mq, .int mo, .int hc, .long ms9, .int kp, .int kq, .int kn, .int dp, .int dq, .int dg, .ref k1, .int th])), (k1, .inl (b1, 8, .inl se)), (ho, .inl (ao, 1, .inr (.inl ou2))), (h0, .inr (0, [.int cp, .int cq, .long cs, .int cn, .int dp, .int dq, .int dg, .ref h1, .ref h2])), (h1, .inl (a1, 8, .inl se)), (h2, .inl (a2, 8, .inl pu))] H := hP
  have hD : va_D (fun q : Nat => s.heap.size ≤ q) [(k0, .inr (1, [.int mp, .int mq, .int mo, .int hc, .long ms9, .int kp, .int kq, .int kn, .int dp, .int dq, .int dg, .ref k1, .int th])), (k1, .inl (b1, 8, .inl se)), (ho, .inl (ao, 1, .inr (.inl ou2))), (h0, .inr (0, [.int cp, .int cq, .long cs, .int cn, .int dp, .int dq, .int dg, .ref h1, .ref h2])), (h1, .inl (a1, 8, .inl se)), (h2, .inl (a2, 8, .inl pu))] := hD
  have hK : va_K (dC, dI) vwCl [(b1, .int), (ao, .long), (a1, .int), (a2, .int)] s := hK
  refine lv_istore (lv' := [(5, .int r_965), (0, .ref b), (1, .ref h0), (2, .ref k0), (3, .ref ho), (4, .int (nI (6 * t9)))]) hx hb dL_law_968 hl (by decide) rfl (fun ls hl => ?_)
  refine lv_aload_n hx hb dL_law_970 rfl (lv_at hl 3 rfl) ?_
  refine lv_aload_n hx hb dL_law_971 rfl (lv_at hl 1 rfl) ?_
  refine lv_iload hx hb dL_law_972 (lv_at hl 5 rfl) ?_
  refine lv_iconst (v := 1) hx hb dL_law_974 (by decide) ?_
  refine lv_iadd hx hb dL_law_975 ?_
  refine lv_topi (fun v_975 ev_975 => ?_)
  have ev_975 : v_975 = nI (6 * t9 + 1) := ev_975.trans (nI_add (6 * t9) 1)
  subst ev_975
  refine va_sld hx hb hX hbl hbA hS (vp_in_nI (n := 6 * t9 + 1) (by omega) (by omega)) dL_law_976 ?_
  refine lv_topi (fun v_976 ev_976 => ?_)
  have ev_976 : v_976 = xs (6 * t9 + 1) := ev_976.trans (congrArg xs (nI_clamp (by omega)))
  subst ev_976
  refine lv_aload_n hx hb dL_law_977 rfl (lv_at hl 1 rfl) ?_
  refine lv_iload hx hb dL_law_978 (lv_at hl 5 rfl) ?_
  refine lv_iconst (v := 2) hx hb dL_law_980 (by decide) ?_
  refine lv_iadd hx hb dL_law_981 ?_
  refine lv_topi (fun v_981 ev_981 => ?_)
  have ev_981 : v_981 = nI (6 * t9 + 2) := ev_981.trans (nI_add (6 * t9) 2)
  subst ev_981
  refine va_sld hx hb hX hbl hbA hS (vp_in_nI (n := 6 * t9 + 2) (by omega) (by omega)) dL_law_982 ?_
  refine lv_topi (fun v_982 ev_982 => ?_)
  have ev_982 : v_982 = xs (6 * t9 + 2) := ev_982.trans (congrArg xs (nI_clamp (by omega)))
  subst ev_982
  have hPc := hP.sub (ws' := [(k0, .inr (1, [.int mp, .int mq, .int mo, .int hc, .long ms9, .int kp, .int kq, .int kn, .int dp, .int dq, .int dg, .ref k1, .int th])), (k1, .inl (b1, 8, .inl se))]) [0, 1] rfl
  have hDc := hD.sub (ws' := [(k0, .inr (1, [.int mp, .int mq, .int mo, .int hc, .long ms9, .int kp, .int kq, .int kn, .int dp, .int dq, .int dg, .ref k1, .int th])), (k1, .inl (b1, 8, .inl se))]) [0, 1] (by decide) rfl
  have hKc := hK.sub (tys' := [(b1, .int)]) [0] rfl
  have hFc := va_free (wc := [(k0, .inr (1, [.int mp, .int mq, .int mo, .int hc, .long ms9, .int kp, .int kq, .int kn, .int dp, .int dq, .int dg, .ref k1, .int th])), (k1, .inl (b1, 8, .inl se))]) hD hS hA [0, 1] rfl
  refine va_calli (va_runV (As := [.int (xs (6 * t9 + 1)), .int (xs (6 * t9 + 2))]) (rest := []) ⟨hx, hb, hml, hown, hts⟩ (dk_m_agree l dC dI k0 k1 b1 mp mq mo hc ms9 kp kq kn dp dq dg th se (xs (6 * t9 + 1)) (xs (6 * t9 + 2)) hR.2.1 hR.km _) (cwV 2 hts gL_law_X1_agree rfl rfl rfl (by decide +kernel) ⟨Nat.le_of_ble_eq_true rfl, Nat.le_of_ble_eq_true rfl⟩) ⟨fun a U g mk q => by obtain ⟨q0, q1, qP, qK, qD⟩ := q; exact ⟨q0, q1, qP, va_K.moved (u := U) (U := U.calling g mk a) (Vm.Alike.refl U.vm) qK, qD⟩, va_recv hKc hPc (ci := 1) (q0 := 0) rfl rfl, fun U hU hW => ⟨rfl, by rw [hU], by rw [hU]; exact hPc, va_K.moved hW.alike hKc, hDc.weaken (fun _ _ _ _ => trivial)⟩⟩ rfl rfl hl.1 rfl (lv_room (Nat.le_of_ble_eq_true rfl)) dL_law_983 ⟨by show _ ≤ 1041; omega, by show _ ≤ 8305; omega⟩) hS (fun q _ h => hFc q h) hFc (fun r_983 u t H1 locs ht hvm hw hB hz1 hk1 hS => ?_)
  obtain ⟨th2, hf2, rfl⟩ := hw
  have hk : th2 = r_965 := congrArg Prod.fst (hf2.symm.trans hf)
  have hv0 : r_983 = v := congrArg Prod.snd (hf2.symm.trans hf)
  subst hv0
  obtain ⟨hP1, hK1, hD1⟩ := hB
  rw [ht] at hP1
  have hK1 := va_K.moved hvm.symm hK1
  obtain ⟨hP, hD⟩ := va_join (wr := [(ho, .inl (ao, 1, .inr (.inl ou2))), (h0, .inr (0, [.int cp, .int cq, .long cs, .int cn, .int dp, .int dq, .int dg, .ref h1, .ref h2])), (h1, .inl (a1, 8, .inl se)), (h2, .inl (a2, 8, .inl pu))]) (w1 := [(k0, .inr (1, [.int mp, .int mq, .int mo, .int hc, .long ms9, .int kp, .int kq, .int kn, .int dp, .int dq, .int dg, .ref k1, .int th2])), (k1, .inl (b1, 8, .inl se))]) hP hD [0, 1] [2, 3, 4, 5] rfl rfl (by decide) (by decide) hk1 hFc hP1 hD1
  have hK := (hK.sub (tys' := [(ao, .long), (a1, .int), (a2, .int)]) [1, 2, 3] rfl).app hK1
  generalize H1 = H at hP hS ⊢
  have hP : va_P (dC, dI) vwCl [(ho, .inl (ao, 1, .inr (.inl ou2))), (h0, .inr (0, [.int cp, .int cq, .long cs, .int cn, .int dp, .int dq, .int dg, .ref h1, .ref h2])), (h1, .inl (a1, 8, .inl se)), (h2, .inl (a2, 8, .inl pu)), (k0, .inr (1, [.int mp, .int mq, .int mo, .int hc, .long ms9, .int kp, .int kq, .int kn, .int dp, .int dq, .int dg, .ref k1, .int th2])), (k1, .inl (b1, 8, .inl se))] H := hP
  have hD : va_D (fun q : Nat => s.heap.size ≤ q) [(ho, .inl (ao, 1, .inr (.inl ou2))), (h0, .inr (0, [.int cp, .int cq, .long cs, .int cn, .int dp, .int dq, .int dg, .ref h1, .ref h2])), (h1, .inl (a1, 8, .inl se)), (h2, .inl (a2, 8, .inl pu)), (k0, .inr (1, [.int mp, .int mq, .int mo, .int hc, .long ms9, .int kp, .int kq, .int kn, .int dp, .int dq, .int dg, .ref k1, .int th2])), (k1, .inl (b1, 8, .inl se))] := hD
  have hK : va_K (dC, dI) vwCl [(ao, .long), (a1, .int), (a2, .int), (b1, .int)] s := hK
  refine lv_istore (lv' := [(6, .int r_983), (5, .int r_965), (0, .ref b), (1, .ref h0), (2, .ref k0), (3, .ref ho), (4, .int (nI (6 * t9)))]) hx hb dL_law_986 hl (by decide) rfl (fun ls hl => ?_)
  refine lv_aload_n hx hb dL_law_988 rfl (lv_at hl 4 rfl) ?_
  have hPc := hP.sub (ws' := [(k0, .inr (1, [.int mp, .int mq, .int mo, .int hc, .long ms9, .int kp, .int kq, .int kn, .int dp, .int dq, .int dg, .ref k1, .int th2])), (k1, .inl (b1, 8, .inl se))]) [4, 5] rfl
  have hKc := hK.sub (tys' := [(b1, .int)]) [3] rfl
  refine vp_callSi (W.runV (As := []) (rest := []) ⟨hx, hb, hml, hown, hts⟩ (dk_m_thrown l dC dI k0 k1 b1 mp mq mo hc ms9 kp kq kn dp dq dg th2 se ) (cwV 0 hts gL_law_X1_thrown rfl rfl rfl (by decide +kernel) ⟨Nat.le_of_ble_eq_true rfl, Nat.le_of_ble_eq_true rfl⟩) ⟨fun a U g mk q => by obtain ⟨q0, qP, qK⟩ := q; exact ⟨q0, qP, va_K.moved (u := U) (U := U.calling g mk a) (Vm.Alike.refl U.vm) qK⟩, va_recv hKc hPc (ci := 1) (q0 := 0) rfl rfl, fun U hU hW => ⟨rfl, by rw [hU]; exact hPc, va_K.moved hW.alike hKc⟩⟩ rfl rfl hl.1 rfl (lv_room (Nat.le_of_ble_eq_true rfl)) dL_law_989 ⟨by show _ ≤ 1041; omega, by show _ ≤ 8305; omega⟩) (fun r_989 hr_989 => ?_)
  refine lv_iload hx hb dL_law_992 (lv_at hl 1 rfl) ?_
  refine lv_icmp_eq (tgt := 999) hx hb dL_law_994 (by decide) (fun c_994 => ?_) (fun c_994 => ?_)
  · refine lv_iload hx hb dL_law_999 (lv_at hl 1 rfl) ?_
    refine lv_if_ne (tgt := 1016) hx hb dL_law_1001 (by decide) (fun c_1001 => ?_) (fun c_1001 => ?_)
    · refine lv_goto (tgt := 1019) hx hb dL_law_1016 (by decide) ?_
      exact kk _ _ cp cq cs cn dp dq dg se pu mp mq mo hc ms9 kp kq kn th2 ou2 _ _ ls (by omega) (by omega) hR (hP.sub [0, 1, 2, 3, 4, 5] rfl) (hD.sub [0, 1, 2, 3, 4, 5] (by decide) rfl) hS (lv_sub hl [2, 3, 4, 5, 6] rfl)
    · refine lv_aload_n hx hb dL_law_1004 rfl (lv_at hl 5 rfl) ?_
      refine lv_iconst (v := 0) hx hb dL_law_1005 (by decide) ?_
      refine va_lald hx hb hK hP 0 0 rfl rfl (vp_in_nI (n := 0) (by decide) (by decide)) dL_law_1006 ?_
      refine lv_topl (fun v_1006 ev_1006 => ?_)
      have ev_1006 : v_1006 = ou2 0 := ev_1006.trans (congrArg ou2 sb_cl0)
      subst ev_1006
      refine lv_iload hx hb dL_law_1007 (lv_at hl 0 rfl) ?_
      refine lv_i2l hx hb dL_law_1009 rfl ?_
      refine W.lcmp hx hb dL_law_1010 ?_
      refine lv_if_eq (tgt := 1016) hx hb dL_law_1011 (by decide) (fun c_1011 => ?_) (fun c_1011 => ?_)
      · refine lv_goto (tgt := 1019) hx hb dL_law_1016 (by decide) ?_
        exact kk _ _ cp cq cs cn dp dq dg se pu mp mq mo hc ms9 kp kq kn th2 ou2 _ _ ls (by omega) (by omega) hR (hP.sub [0, 1, 2, 3, 4, 5] rfl) (hD.sub [0, 1, 2, 3, 4, 5] (by decide) rfl) hS (lv_sub hl [2, 3, 4, 5, 6] rfl)
      · exact absurd ((lg_cmp_eq _ _).mpr (hv1 c_1001)) c_1011
  · exact absurd (hr_989.trans hk) c_994
