set_option maxHeartbeats 4000000 in
set_option maxRecDepth 100000 in
theorem dk_case2 {p : Program} {l : Launch} {e : Env} {s : State} {m : MethodId} {below : List Frame} {meth : Method} {c : Code} {dC : Nat → ClassId} {dI : Nat → Nat → Nat} {b L : Nat} {xs : Nat → Int32} {h0 h1 h2 : Nat} {a1 a2 : ClassId} {k0 k1 : Nat} {b1 : ClassId} {ho : Nat} {ao : ClassId} (hl9 : l.stackTraces = false) (hL : L ≤ 3072) (C0 : lw_At p s m meth c b L xs) (hK : va_K (dC, dI) vwCl [(ao, .long), (a1, .int), (a2, .int), (b1, .int)] s) (hE : dk_E (fun q : Nat => s.heap.size ≤ q) s s.heap) {t9 cb sb : Nat} (ht9 : 6 * t9 + 6 ≤ L) (hcb : cb + 2 ≤ 1041) (hsb : sb + 12 ≤ 8305) (kk : dk_KK p l e s m below meth c dC dI b h0 h1 h2 a1 a2 k0 k1 b1 ho ao t9 (cb + 2) (sb + 12) 1019) : dk_KK p l e s m below meth c dC dI b h0 h1 h2 a1 a2 k0 k1 b1 ho ao t9 cb sb 195 := by
  obtain ⟨hx, hb, hr, hml, hown0, hts0, hX, hbl, hlocks, hgv⟩ := C0
  have hts := fun (w : Cond) (h : w ∈ wsL_law) => hts0 w (wsL_law_in w h)
  have hown : s.vm.findClass RL = some m.cls := hown0
  have hA : ∀ q : Nat, s.heap.size ≤ q → (fun q : Nat => s.heap.size ≤ q) q := fun _ h => h
  have hbA : ¬ (fun q : Nat => s.heap.size ≤ q) b := Nat.not_le.mpr hbl
  intro kc ks cp cq cs cn dp dq dg se pu mp mq mo hc ms9 kp kq kn th ou H locs ls hkc hks hR hP hD hS hl
  refine lv_aload_n hx hb dL_law_195 rfl (lv_at hl 1 rfl) ?_
  refine lv_aload_n hx hb dL_law_196 rfl (lv_at hl 0 rfl) ?_
  refine lv_iload hx hb dL_law_197 (lv_at hl 4 rfl) ?_
  refine lv_iconst (v := 1) hx hb dL_law_199 (by decide) ?_
  refine lv_iadd hx hb dL_law_200 ?_
  refine lv_topi (fun v_200 ev_200 => ?_)
  have ev_200 : v_200 = nI (6 * t9 + 1) := ev_200.trans (nI_add (6 * t9) 1)
  subst ev_200
  refine va_sld hx hb hX hbl hbA hS (vp_in_nI (n := 6 * t9 + 1) (by omega) (by omega)) dL_law_201 ?_
  refine lv_topi (fun v_201 ev_201 => ?_)
  have ev_201 : v_201 = xs (6 * t9 + 1) := ev_201.trans (congrArg xs (nI_clamp (by omega)))
  subst ev_201
  refine lv_aload_n hx hb dL_law_202 rfl (lv_at hl 3 rfl) ?_
  have hPc := hP.sub (ws' := [(ho, .inl (ao, 1, .inr (.inl ou))), (h0, .inr (0, [.int cp, .int cq, .long cs, .int cn, .int dp, .int dq, .int dg, .ref h1, .ref h2])), (h1, .inl (a1, 8, .inl se)), (h2, .inl (a2, 8, .inl pu))]) [0, 1, 2, 3] rfl
  have hDc := hD.sub (ws' := [(ho, .inl (ao, 1, .inr (.inl ou))), (h0, .inr (0, [.int cp, .int cq, .long cs, .int cn, .int dp, .int dq, .int dg, .ref h1, .ref h2])), (h1, .inl (a1, 8, .inl se)), (h2, .inl (a2, 8, .inl pu))]) [0, 1, 2, 3] (by decide) rfl
  have hKc := hK.sub (tys' := [(ao, .long), (a1, .int), (a2, .int)]) [0, 1, 2] rfl
  have hFc := va_free (wc := [(ho, .inl (ao, 1, .inr (.inl ou))), (h0, .inr (0, [.int cp, .int cq, .long cs, .int cn, .int dp, .int dq, .int dg, .ref h1, .ref h2])), (h1, .inl (a1, 8, .inl se)), (h2, .inl (a2, 8, .inl pu))]) hD hS hA [0, 1, 2, 3] rfl
  refine va_calli (vx_runSW (hh := [(0, 9, 12, 13), (0, 9, 15, 15)]) (As := [.ref h0, .int (xs (6 * t9 + 1)), .ref ho]) (rest := []) ⟨hx, hb, hml, hown, hts⟩ (dk_l_generator l hl9 dC dI h0 h1 h2 a1 a2 ho ao cp cq cs cn dp dq dg se pu ou (xs (6 * t9 + 1)) hR.1 _) (vx_cwSW 3 hts gL_law_L_generator rfl rfl rfl (by decide +kernel) ⟨Nat.le_of_ble_eq_true rfl, Nat.le_of_ble_eq_true rfl⟩) ⟨fun a U g mk q => by obtain ⟨q0, q1, qP, qK, qD, qE⟩ := q; exact ⟨q0, q1, qP, va_K.moved (u := U) (U := U.calling g mk a) (Vm.Alike.refl U.vm) qK, qD, qE.blind⟩, fun U hU hW => ⟨rfl, by rw [hU], by rw [hU]; exact hPc, va_K.moved hW.alike hKc, hDc.weaken (fun _ _ _ _ => trivial), hE.go hS hFc hU hW⟩⟩ rfl rfl hl.1 rfl (lv_room (Nat.le_of_ble_eq_true rfl)) dL_law_203 ⟨by show _ ≤ 1041; omega, by show _ ≤ 8305; omega⟩) hS (fun q _ h => hFc q h) hFc (fun r_203 u t H1 locs ht hvm hw hB hz1 hk1 hS => ?_)
  obtain ⟨ou2, rfl, hg1⟩ : ∃ ou2 : Nat → Int64, u = ((cp, cq, cs, cn, dp, dq, dg, se, pu), ou2) ∧ dk_gO cp cq cs (xs (6 * t9 + 1)) r_203 ou2 := by
    rcases hw with ⟨q1, q2, rfl⟩ | ⟨q1, q2, q3, rfl⟩ | ⟨q1, q2, ix, q3, q4, v, q5, rfl⟩
    · exact ⟨_, rfl, Or.inl ⟨q1, q2⟩⟩
    · exact ⟨_, rfl, Or.inr (Or.inl ⟨q1, q2, q3⟩)⟩
    · exact ⟨_, rfl, Or.inr (Or.inr ⟨q1, q2, ix, q3, q4, v, q5, rfl⟩)⟩
  obtain ⟨hP1, hK1, hD1⟩ := hB
  rw [ht] at hP1
  have hK1 := va_K.moved hvm.symm hK1
  obtain ⟨hP, hD⟩ := va_join (wr := [(k0, .inr (1, [.int mp, .int mq, .int mo, .int hc, .long ms9, .int kp, .int kq, .int kn, .int dp, .int dq, .int dg, .ref k1, .int th])), (k1, .inl (b1, 8, .inl se))]) (w1 := [(ho, .inl (ao, 1, .inr (.inl ou2))), (h0, .inr (0, [.int cp, .int cq, .long cs, .int cn, .int dp, .int dq, .int dg, .ref h1, .ref h2])), (h1, .inl (a1, 8, .inl se)), (h2, .inl (a2, 8, .inl pu))]) hP hD [0, 1, 2, 3] [4, 5] rfl rfl (by decide) (by decide) hk1 hFc hP1 hD1
  have hK := (hK.sub (tys' := [(b1, .int)]) [3] rfl).app hK1
  generalize H1 = H at hP hS ⊢
  have hP : va_P (dC, dI) vwCl [(k0, .inr (1, [.int mp, .int mq, .int mo, .int hc, .long ms9, .int kp, .int kq, .int kn, .int dp, .int dq, .int dg, .ref k1, .int th])), (k1, .inl (b1, 8, .inl se)), (ho, .inl (ao, 1, .inr (.inl ou2))), (h0, .inr (0, [.int cp, .int cq, .long cs, .int cn, .int dp, .int dq, .int dg, .ref h1, .ref h2])), (h1, .inl (a1, 8, .inl se)), (h2, .inl (a2, 8, .inl pu))] H := hP
  have hD : va_D (fun q : Nat => s.heap.size ≤ q) [(k0, .inr (1, [.int mp, .int mq, .int mo, .int hc, .long ms9, .int kp, .int kq, .int kn, .int dp, .int dq, .int dg, .ref k1, .int th])), (k1, .inl (b1, 8, .inl se)), (ho, .inl (ao, 1, .inr (.inl ou2))), (h0, .inr (0, [.int cp, .int cq, .long cs, .int cn, .int dp, .int dq, .int dg, .ref h1, .ref h2])), (h1, .inl (a1, 8, .inl se)), (h2, .inl (a2, 8, .inl pu))] := hD
  have hK : va_K (dC, dI) vwCl [(b1, .int), (ao, .long), (a1, .int), (a2, .int)] s := hK
  refine lv_istore (lv' := [(5, .int r_203), (0, .ref b), (1, .ref h0), (2, .ref k0), (3, .ref ho), (4, .int (nI (6 * t9)))]) hx hb dL_law_206 hl (by decide) rfl (fun ls hl => ?_)
  refine lv_aload_n hx hb dL_law_208 rfl (lv_at hl 3 rfl) ?_
  refine lv_aload_n hx hb dL_law_209 rfl (lv_at hl 1 rfl) ?_
  refine lv_iload hx hb dL_law_210 (lv_at hl 5 rfl) ?_
  refine lv_iconst (v := 1) hx hb dL_law_212 (by decide) ?_
  refine lv_iadd hx hb dL_law_213 ?_
  refine lv_topi (fun v_213 ev_213 => ?_)
  have ev_213 : v_213 = nI (6 * t9 + 1) := ev_213.trans (nI_add (6 * t9) 1)
  subst ev_213
  refine va_sld hx hb hX hbl hbA hS (vp_in_nI (n := 6 * t9 + 1) (by omega) (by omega)) dL_law_214 ?_
  refine lv_topi (fun v_214 ev_214 => ?_)
  have ev_214 : v_214 = xs (6 * t9 + 1) := ev_214.trans (congrArg xs (nI_clamp (by omega)))
  subst ev_214
  have hPc := hP.sub (ws' := [(k0, .inr (1, [.int mp, .int mq, .int mo, .int hc, .long ms9, .int kp, .int kq, .int kn, .int dp, .int dq, .int dg, .ref k1, .int th])), (k1, .inl (b1, 8, .inl se))]) [0, 1] rfl
  have hDc := hD.sub (ws' := [(k0, .inr (1, [.int mp, .int mq, .int mo, .int hc, .long ms9, .int kp, .int kq, .int kn, .int dp, .int dq, .int dg, .ref k1, .int th])), (k1, .inl (b1, 8, .inl se))]) [0, 1] (by decide) rfl
  have hKc := hK.sub (tys' := [(b1, .int)]) [0] rfl
  have hFc := va_free (wc := [(k0, .inr (1, [.int mp, .int mq, .int mo, .int hc, .long ms9, .int kp, .int kq, .int kn, .int dp, .int dq, .int dg, .ref k1, .int th])), (k1, .inl (b1, 8, .inl se))]) hD hS hA [0, 1] rfl
  refine va_calli (va_runV (As := [.int (xs (6 * t9 + 1))]) (rest := []) ⟨hx, hb, hml, hown, hts⟩ (dk_m_generator l dC dI k0 k1 b1 mp mq mo hc ms9 kp kq kn dp dq dg th se (xs (6 * t9 + 1)) hR.gI _) (cwV 1 hts gL_law_X1_generator rfl rfl rfl (by decide +kernel) ⟨Nat.le_of_ble_eq_true rfl, Nat.le_of_ble_eq_true rfl⟩) ⟨fun a U g mk q => by obtain ⟨q0, q1, qP, qK, qD⟩ := q; exact ⟨q0, q1, qP, va_K.moved (u := U) (U := U.calling g mk a) (Vm.Alike.refl U.vm) qK, qD⟩, va_recv hKc hPc (ci := 1) (q0 := 0) rfl rfl, fun U hU hW => ⟨rfl, by rw [hU], by rw [hU]; exact hPc, va_K.moved hW.alike hKc, hDc.weaken (fun _ _ _ _ => trivial)⟩⟩ rfl rfl hl.1 rfl (lv_room (Nat.le_of_ble_eq_true rfl)) dL_law_215 ⟨by show _ ≤ 1041; omega, by show _ ≤ 8305; omega⟩) hS (fun q _ h => hFc q h) hFc (fun r_215 u t H1 locs ht hvm hw hB hz1 hk1 hS => ?_)
  obtain ⟨th2, rfl, hg2⟩ : ∃ th2 : Int32, u = (mp, mq, mo, hc, ms9, kp, kq, kn, dp, dq, dg, th2, se) ∧ dk_gM hc kp kq ms9 (xs (6 * t9 + 1)) th2 r_215 := by
    rcases hw with ⟨q2, rfl⟩ | ⟨q2, q3, rfl⟩ | ⟨q2, rfl, ix, q3, q4, q5⟩
    · exact ⟨_, rfl, Or.inl ⟨rfl, q2⟩⟩
    · exact ⟨_, rfl, Or.inr (Or.inl ⟨rfl, q2, q3⟩)⟩
    · exact ⟨_, rfl, Or.inr (Or.inr ⟨rfl, q2, ix, q3, q4, q5⟩)⟩
  obtain ⟨hk, hv⟩ := hR.gtor hg1 hg2
  obtain ⟨hP1, hK1, hD1⟩ := hB
  rw [ht] at hP1
  have hK1 := va_K.moved hvm.symm hK1
  obtain ⟨hP, hD⟩ := va_join (wr := [(ho, .inl (ao, 1, .inr (.inl ou2))), (h0, .inr (0, [.int cp, .int cq, .long cs, .int cn, .int dp, .int dq, .int dg, .ref h1, .ref h2])), (h1, .inl (a1, 8, .inl se)), (h2, .inl (a2, 8, .inl pu))]) (w1 := [(k0, .inr (1, [.int mp, .int mq, .int mo, .int hc, .long ms9, .int kp, .int kq, .int kn, .int dp, .int dq, .int dg, .ref k1, .int th2])), (k1, .inl (b1, 8, .inl se))]) hP hD [0, 1] [2, 3, 4, 5] rfl rfl (by decide) (by decide) hk1 hFc hP1 hD1
  have hK := (hK.sub (tys' := [(ao, .long), (a1, .int), (a2, .int)]) [1, 2, 3] rfl).app hK1
  generalize H1 = H at hP hS ⊢
  have hP : va_P (dC, dI) vwCl [(ho, .inl (ao, 1, .inr (.inl ou2))), (h0, .inr (0, [.int cp, .int cq, .long cs, .int cn, .int dp, .int dq, .int dg, .ref h1, .ref h2])), (h1, .inl (a1, 8, .inl se)), (h2, .inl (a2, 8, .inl pu)), (k0, .inr (1, [.int mp, .int mq, .int mo, .int hc, .long ms9, .int kp, .int kq, .int kn, .int dp, .int dq, .int dg, .ref k1, .int th2])), (k1, .inl (b1, 8, .inl se))] H := hP
  have hD : va_D (fun q : Nat => s.heap.size ≤ q) [(ho, .inl (ao, 1, .inr (.inl ou2))), (h0, .inr (0, [.int cp, .int cq, .long cs, .int cn, .int dp, .int dq, .int dg, .ref h1, .ref h2])), (h1, .inl (a1, 8, .inl se)), (h2, .inl (a2, 8, .inl pu)), (k0, .inr (1, [.int mp, .int mq, .int mo, .int hc, .long ms9, .int kp, .int kq, .int kn, .int dp, .int dq, .int dg, .ref k1, .int th2])), (k1, .inl (b1, 8, .inl se))] := hD
  have hK : va_K (dC, dI) vwCl [(ao, .long), (a1, .int), (a2, .int), (b1, .int)] s := hK
  refine lv_istore (lv' := [(6, .int r_215), (5, .int r_203), (0, .ref b), (1, .ref h0), (2, .ref k0), (3, .ref ho), (4, .int (nI (6 * t9)))]) hx hb dL_law_218 hl (by decide) rfl (fun ls hl => ?_)
  refine lv_aload_n hx hb dL_law_220 rfl (lv_at hl 4 rfl) ?_
  have hPc := hP.sub (ws' := [(k0, .inr (1, [.int mp, .int mq, .int mo, .int hc, .long ms9, .int kp, .int kq, .int kn, .int dp, .int dq, .int dg, .ref k1, .int th2])), (k1, .inl (b1, 8, .inl se))]) [4, 5] rfl
  have hKc := hK.sub (tys' := [(b1, .int)]) [3] rfl
  refine vp_callSi (W.runV (As := []) (rest := []) ⟨hx, hb, hml, hown, hts⟩ (dk_m_thrown l dC dI k0 k1 b1 mp mq mo hc ms9 kp kq kn dp dq dg th2 se ) (cwV 0 hts gL_law_X1_thrown rfl rfl rfl (by decide +kernel) ⟨Nat.le_of_ble_eq_true rfl, Nat.le_of_ble_eq_true rfl⟩) ⟨fun a U g mk q => by obtain ⟨q0, qP, qK⟩ := q; exact ⟨q0, qP, va_K.moved (u := U) (U := U.calling g mk a) (Vm.Alike.refl U.vm) qK⟩, va_recv hKc hPc (ci := 1) (q0 := 0) rfl rfl, fun U hU hW => ⟨rfl, by rw [hU]; exact hPc, va_K.moved hW.alike hKc⟩⟩ rfl rfl hl.1 rfl (lv_room (Nat.le_of_ble_eq_true rfl)) dL_law_221 ⟨by show _ ≤ 1041; omega, by show _ ≤ 8305; omega⟩) (fun r_221 hr_221 => ?_)
  refine lv_iload hx hb dL_law_224 (lv_at hl 1 rfl) ?_
  refine lv_icmp_eq (tgt := 231) hx hb dL_law_226 (by decide) (fun c_226 => ?_) (fun c_226 => ?_)
  · refine lv_iload hx hb dL_law_231 (lv_at hl 1 rfl) ?_
    refine lv_if_ne (tgt := 248) hx hb dL_law_233 (by decide) (fun c_233 => ?_) (fun c_233 => ?_)
    · refine lv_goto (tgt := 1019) hx hb dL_law_248 (by decide) ?_
      exact kk _ _ cp cq cs cn dp dq dg se pu mp mq mo hc ms9 kp kq kn th2 ou2 _ _ ls (by omega) (by omega) hR (hP.sub [0, 1, 2, 3, 4, 5] rfl) (hD.sub [0, 1, 2, 3, 4, 5] (by decide) rfl) hS (lv_sub hl [2, 3, 4, 5, 6] rfl)
    · refine lv_aload_n hx hb dL_law_236 rfl (lv_at hl 5 rfl) ?_
      refine lv_iconst (v := 0) hx hb dL_law_237 (by decide) ?_
      refine va_lald hx hb hK hP 0 0 rfl rfl (vp_in_nI (n := 0) (by decide) (by decide)) dL_law_238 ?_
      refine lv_topl (fun v_238 ev_238 => ?_)
      have ev_238 : v_238 = ou2 0 := ev_238.trans (congrArg ou2 sb_cl0)
      subst ev_238
      refine lv_iload hx hb dL_law_239 (lv_at hl 0 rfl) ?_
      refine lv_i2l hx hb dL_law_241 rfl ?_
      refine W.lcmp hx hb dL_law_242 ?_
      refine lv_if_eq (tgt := 248) hx hb dL_law_243 (by decide) (fun c_243 => ?_) (fun c_243 => ?_)
      · refine lv_goto (tgt := 1019) hx hb dL_law_248 (by decide) ?_
        exact kk _ _ cp cq cs cn dp dq dg se pu mp mq mo hc ms9 kp kq kn th2 ou2 _ _ ls (by omega) (by omega) hR (hP.sub [0, 1, 2, 3, 4, 5] rfl) (hD.sub [0, 1, 2, 3, 4, 5] (by decide) rfl) hS (lv_sub hl [2, 3, 4, 5, 6] rfl)
      · exact absurd ((lg_cmp_eq _ _).mpr (hv c_233)) c_243
  · exact absurd (hr_221.trans hk) c_226

set_option maxHeartbeats 4000000 in
set_option maxRecDepth 100000 in
theorem dk_case4 {p : Program} {l : Launch} {e : Env} {s : State} {m : MethodId} {below : List Frame} {meth : Method} {c : Code} {dC : Nat → ClassId} {dI : Nat → Nat → Nat} {b L : Nat} {xs : Nat → Int32} {h0 h1 h2 : Nat} {a1 a2 : ClassId} {k0 k1 : Nat} {b1 : ClassId} {ho : Nat} {ao : ClassId} (hl9 : l.stackTraces = false) (hL : L ≤ 3072) (C0 : lw_At p s m meth c b L xs) (hK : va_K (dC, dI) vwCl [(ao, .long), (a1, .int), (a2, .int), (b1, .int)] s) (hE : dk_E (fun q : Nat => s.heap.size ≤ q) s s.heap) {t9 cb sb : Nat} (ht9 : 6 * t9 + 6 ≤ L) (hcb : cb + 2 ≤ 1041) (hsb : sb + 12 ≤ 8305) (kk : dk_KK p l e s m below meth c dC dI b h0 h1 h2 a1 a2 k0 k1 b1 ho ao t9 (cb + 2) (sb + 12) 1019) : dk_KK p l e s m below meth c dC dI b h0 h1 h2 a1 a2 k0 k1 b1 ho ao t9 cb sb 344 := by
  obtain ⟨hx, hb, hr, hml, hown0, hts0, hX, hbl, hlocks, hgv⟩ := C0
  have hts := fun (w : Cond) (h : w ∈ wsL_law) => hts0 w (wsL_law_in w h)
  have hown : s.vm.findClass RL = some m.cls := hown0
  have hA : ∀ q : Nat, s.heap.size ≤ q → (fun q : Nat => s.heap.size ≤ q) q := fun _ h => h
  have hbA : ¬ (fun q : Nat => s.heap.size ≤ q) b := Nat.not_le.mpr hbl
  intro kc ks cp cq cs cn dp dq dg se pu mp mq mo hc ms9 kp kq kn th ou H locs ls hkc hks hR hP hD hS hl
  refine lv_aload_n hx hb dL_law_344 rfl (lv_at hl 1 rfl) ?_
  refine lv_aload_n hx hb dL_law_345 rfl (lv_at hl 0 rfl) ?_
  refine lv_iload hx hb dL_law_346 (lv_at hl 4 rfl) ?_
  refine lv_iconst (v := 1) hx hb dL_law_348 (by decide) ?_
  refine lv_iadd hx hb dL_law_349 ?_
  refine lv_topi (fun v_349 ev_349 => ?_)
  have ev_349 : v_349 = nI (6 * t9 + 1) := ev_349.trans (nI_add (6 * t9) 1)
  subst ev_349
  refine va_sld hx hb hX hbl hbA hS (vp_in_nI (n := 6 * t9 + 1) (by omega) (by omega)) dL_law_350 ?_
  refine lv_topi (fun v_350 ev_350 => ?_)
  have ev_350 : v_350 = xs (6 * t9 + 1) := ev_350.trans (congrArg xs (nI_clamp (by omega)))
  subst ev_350
  refine lv_aload_n hx hb dL_law_351 rfl (lv_at hl 0 rfl) ?_
  refine lv_iload hx hb dL_law_352 (lv_at hl 4 rfl) ?_
  refine lv_iconst (v := 2) hx hb dL_law_354 (by decide) ?_
  refine lv_iadd hx hb dL_law_355 ?_
  refine lv_topi (fun v_355 ev_355 => ?_)
  have ev_355 : v_355 = nI (6 * t9 + 2) := ev_355.trans (nI_add (6 * t9) 2)
  subst ev_355
  refine va_sld hx hb hX hbl hbA hS (vp_in_nI (n := 6 * t9 + 2) (by omega) (by omega)) dL_law_356 ?_
  refine lv_topi (fun v_356 ev_356 => ?_)
  have ev_356 : v_356 = xs (6 * t9 + 2) := ev_356.trans (congrArg xs (nI_clamp (by omega)))
  subst ev_356
  refine lv_aload_n hx hb dL_law_357 rfl (lv_at hl 0 rfl) ?_
  refine lv_iload hx hb dL_law_358 (lv_at hl 4 rfl) ?_
  refine lv_iconst (v := 3) hx hb dL_law_360 (by decide) ?_
  refine lv_iadd hx hb dL_law_361 ?_
  refine lv_topi (fun v_361 ev_361 => ?_)
  have ev_361 : v_361 = nI (6 * t9 + 3) := ev_361.trans (nI_add (6 * t9) 3)
  subst ev_361
  refine va_sld hx hb hX hbl hbA hS (vp_in_nI (n := 6 * t9 + 3) (by omega) (by omega)) dL_law_362 ?_
  refine lv_topi (fun v_362 ev_362 => ?_)
  have ev_362 : v_362 = xs (6 * t9 + 3) := ev_362.trans (congrArg xs (nI_clamp (by omega)))
  subst ev_362
  have hPc := hP.sub (ws' := [(h0, .inr (0, [.int cp, .int cq, .long cs, .int cn, .int dp, .int dq, .int dg, .ref h1, .ref h2])), (h1, .inl (a1, 8, .inl se)), (h2, .inl (a2, 8, .inl pu))]) [1, 2, 3] rfl
  have hDc := hD.sub (ws' := [(h0, .inr (0, [.int cp, .int cq, .long cs, .int cn, .int dp, .int dq, .int dg, .ref h1, .ref h2])), (h1, .inl (a1, 8, .inl se)), (h2, .inl (a2, 8, .inl pu))]) [1, 2, 3] (by decide) rfl
  have hKc := hK.sub (tys' := [(a1, .int), (a2, .int)]) [1, 2] rfl
  have hFc := va_free (wc := [(h0, .inr (0, [.int cp, .int cq, .long cs, .int cn, .int dp, .int dq, .int dg, .ref h1, .ref h2])), (h1, .inl (a1, 8, .inl se)), (h2, .inl (a2, 8, .inl pu))]) hD hS hA [1, 2, 3] rfl
  refine va_calli (vx_runSW (hh := [(0, 7, 10, 15)]) (As := [.ref h0, .int (xs (6 * t9 + 1)), .int (xs (6 * t9 + 2)), .int (xs (6 * t9 + 3))]) (rest := []) ⟨hx, hb, hml, hown, hts⟩ (dk_l_adopt l hl9 dC dI h0 h1 h2 a1 a2 cp cq cs cn dp dq dg se pu (xs (6 * t9 + 1)) (xs (6 * t9 + 2)) (xs (6 * t9 + 3)) _) (vx_cwSW 4 hts gL_law_L_adopt rfl rfl rfl (by decide +kernel) ⟨Nat.le_of_ble_eq_true rfl, Nat.le_of_ble_eq_true rfl⟩) ⟨fun a U g mk q => by obtain ⟨q0, q1, qP, qK, qD, qE⟩ := q; exact ⟨q0, q1, qP, va_K.moved (u := U) (U := U.calling g mk a) (Vm.Alike.refl U.vm) qK, qD, qE.blind⟩, fun U hU hW => ⟨rfl, by rw [hU], by rw [hU]; exact hPc, va_K.moved hW.alike hKc, hDc.weaken (fun _ _ _ _ => trivial), hE.go hS hFc hU hW⟩⟩ rfl rfl hl.1 rfl (lv_room (Nat.le_of_ble_eq_true rfl)) dL_law_363 ⟨by show _ ≤ 1041; omega, by show _ ≤ 8305; omega⟩) hS (fun q _ h => hFc q h) hFc (fun r_363 u t H1 locs ht hvm hw hB hz1 hk1 hS => ?_)
  obtain ⟨dp2, dq2, dg2, se2, pu2, rfl, hw1⟩ : ∃ (dp2 dq2 dg2 : Int32) (se2 pu2 : Nat → Int32), u = (cp, cq, cs, cn, dp2, dq2, dg2, se2, pu2) ∧ ((r_363 = 0 ∧ dk_domI (xs (6 * t9 + 1)) (xs (6 * t9 + 2)) (xs (6 * t9 + 3)) ∧ dp2 = xs (6 * t9 + 1) ∧ dq2 = xs (6 * t9 + 2) ∧ dg2 = xs (6 * t9 + 3) ∧ se2 = dk_clr 8 se ∧ pu2 = dk_clr 8 pu) ∨ (r_363 = 1 ∧ ¬ dk_domI (xs (6 * t9 + 1)) (xs (6 * t9 + 2)) (xs (6 * t9 + 3)) ∧ dp2 = dp ∧ dq2 = dq ∧ dg2 = dg ∧ se2 = se ∧ pu2 = pu)) := by
    rcases hw with ⟨q1, q2, rfl⟩ | ⟨q1, q2, rfl⟩
    · exact ⟨_, _, _, _, _, rfl, Or.inl ⟨q1, q2, rfl, rfl, rfl, rfl, rfl⟩⟩
    · exact ⟨_, _, _, _, _, rfl, Or.inr ⟨q1, q2, rfl, rfl, rfl, rfl, rfl⟩⟩
  obtain ⟨hP1, hK1, hD1⟩ := hB
  rw [ht] at hP1
  have hK1 := va_K.moved hvm.symm hK1
  obtain ⟨hP, hD⟩ := va_join (wr := [(ho, .inl (ao, 1, .inr (.inl ou))), (k0, .inr (1, [.int mp, .int mq, .int mo, .int hc, .long ms9, .int kp, .int kq, .int kn, .int dp, .int dq, .int dg, .ref k1, .int th])), (k1, .inl (b1, 8, .inl se))]) (w1 := [(h0, .inr (0, [.int cp, .int cq, .long cs, .int cn, .int dp2, .int dq2, .int dg2, .ref h1, .ref h2])), (h1, .inl (a1, 8, .inl se2)), (h2, .inl (a2, 8, .inl pu2))]) hP hD [1, 2, 3] [0, 4, 5] rfl rfl (by decide) (by decide) hk1 hFc hP1 hD1
  have hK := (hK.sub (tys' := [(ao, .long), (b1, .int)]) [0, 3] rfl).app hK1
  generalize H1 = H at hP hS ⊢
  have hP : va_P (dC, dI) vwCl [(ho, .inl (ao, 1, .inr (.inl ou))), (k0, .inr (1, [.int mp, .int mq, .int mo, .int hc, .long ms9, .int kp, .int kq, .int kn, .int dp, .int dq, .int dg, .ref k1, .int th])), (k1, .inl (b1, 8, .inl se)), (h0, .inr (0, [.int cp, .int cq, .long cs, .int cn, .int dp2, .int dq2, .int dg2, .ref h1, .ref h2])), (h1, .inl (a1, 8, .inl se2)), (h2, .inl (a2, 8, .inl pu2))] H := hP
  have hD : va_D (fun q : Nat => s.heap.size ≤ q) [(ho, .inl (ao, 1, .inr (.inl ou))), (k0, .inr (1, [.int mp, .int mq, .int mo, .int hc, .long ms9, .int kp, .int kq, .int kn, .int dp, .int dq, .int dg, .ref k1, .int th])), (k1, .inl (b1, 8, .inl se)), (h0, .inr (0, [.int cp, .int cq, .long cs, .int cn, .int dp2, .int dq2, .int dg2, .ref h1, .ref h2])), (h1, .inl (a1, 8, .inl se2)), (h2, .inl (a2, 8, .inl pu2))] := hD
  have hK : va_K (dC, dI) vwCl [(ao, .long), (b1, .int), (a1, .int), (a2, .int)] s := hK
  refine lv_istore (lv' := [(5, .int r_363), (0, .ref b), (1, .ref h0), (2, .ref k0), (3, .ref ho), (4, .int (nI (6 * t9)))]) hx hb dL_law_366 hl (by decide) rfl (fun ls hl => ?_)
  refine lv_aload_n hx hb dL_law_368 rfl (lv_at hl 3 rfl) ?_
  refine lv_aload_n hx hb dL_law_369 rfl (lv_at hl 1 rfl) ?_
  refine lv_iload hx hb dL_law_370 (lv_at hl 5 rfl) ?_
  refine lv_iconst (v := 1) hx hb dL_law_372 (by decide) ?_
  refine lv_iadd hx hb dL_law_373 ?_
  refine lv_topi (fun v_373 ev_373 => ?_)
  have ev_373 : v_373 = nI (6 * t9 + 1) := ev_373.trans (nI_add (6 * t9) 1)
  subst ev_373
  refine va_sld hx hb hX hbl hbA hS (vp_in_nI (n := 6 * t9 + 1) (by omega) (by omega)) dL_law_374 ?_
  refine lv_topi (fun v_374 ev_374 => ?_)
  have ev_374 : v_374 = xs (6 * t9 + 1) := ev_374.trans (congrArg xs (nI_clamp (by omega)))
  subst ev_374
  refine lv_aload_n hx hb dL_law_375 rfl (lv_at hl 1 rfl) ?_
  refine lv_iload hx hb dL_law_376 (lv_at hl 5 rfl) ?_
  refine lv_iconst (v := 2) hx hb dL_law_378 (by decide) ?_
  refine lv_iadd hx hb dL_law_379 ?_
  refine lv_topi (fun v_379 ev_379 => ?_)
  have ev_379 : v_379 = nI (6 * t9 + 2) := ev_379.trans (nI_add (6 * t9) 2)
  subst ev_379
  refine va_sld hx hb hX hbl hbA hS (vp_in_nI (n := 6 * t9 + 2) (by omega) (by omega)) dL_law_380 ?_
  refine lv_topi (fun v_380 ev_380 => ?_)
  have ev_380 : v_380 = xs (6 * t9 + 2) := ev_380.trans (congrArg xs (nI_clamp (by omega)))
  subst ev_380
  refine lv_aload_n hx hb dL_law_381 rfl (lv_at hl 1 rfl) ?_
  refine lv_iload hx hb dL_law_382 (lv_at hl 5 rfl) ?_
  refine lv_iconst (v := 3) hx hb dL_law_384 (by decide) ?_
  refine lv_iadd hx hb dL_law_385 ?_
  refine lv_topi (fun v_385 ev_385 => ?_)
  have ev_385 : v_385 = nI (6 * t9 + 3) := ev_385.trans (nI_add (6 * t9) 3)
  subst ev_385
  refine va_sld hx hb hX hbl hbA hS (vp_in_nI (n := 6 * t9 + 3) (by omega) (by omega)) dL_law_386 ?_
  refine lv_topi (fun v_386 ev_386 => ?_)
  have ev_386 : v_386 = xs (6 * t9 + 3) := ev_386.trans (congrArg xs (nI_clamp (by omega)))
  subst ev_386
  have hPc := hP.sub (ws' := [(k0, .inr (1, [.int mp, .int mq, .int mo, .int hc, .long ms9, .int kp, .int kq, .int kn, .int dp, .int dq, .int dg, .ref k1, .int th])), (k1, .inl (b1, 8, .inl se))]) [1, 2] rfl
  have hDc := hD.sub (ws' := [(k0, .inr (1, [.int mp, .int mq, .int mo, .int hc, .long ms9, .int kp, .int kq, .int kn, .int dp, .int dq, .int dg, .ref k1, .int th])), (k1, .inl (b1, 8, .inl se))]) [1, 2] (by decide) rfl
  have hKc := hK.sub (tys' := [(b1, .int)]) [1] rfl
  have hFc := va_free (wc := [(k0, .inr (1, [.int mp, .int mq, .int mo, .int hc, .long ms9, .int kp, .int kq, .int kn, .int dp, .int dq, .int dg, .ref k1, .int th])), (k1, .inl (b1, 8, .inl se))]) hD hS hA [1, 2] rfl
  refine va_callv (va_runV (As := [.int (xs (6 * t9 + 1)), .int (xs (6 * t9 + 2)), .int (xs (6 * t9 + 3))]) (rest := []) ⟨hx, hb, hml, hown, hts⟩ (dk_m_adopt l dC dI k0 k1 b1 mp mq mo hc ms9 kp kq kn dp dq dg th se (xs (6 * t9 + 1)) (xs (6 * t9 + 2)) (xs (6 * t9 + 3)) _) (cwV 3 hts gL_law_X1_adopt rfl rfl rfl (by decide +kernel) ⟨Nat.le_of_ble_eq_true rfl, Nat.le_of_ble_eq_true rfl⟩) ⟨fun a U g mk q => by obtain ⟨q0, q1, qP, qK, qD⟩ := q; exact ⟨q0, q1, qP, va_K.moved (u := U) (U := U.calling g mk a) (Vm.Alike.refl U.vm) qK, qD⟩, va_recv hKc hPc (ci := 1) (q0 := 0) rfl rfl, fun U hU hW => ⟨rfl, by rw [hU], by rw [hU]; exact hPc, va_K.moved hW.alike hKc, hDc.weaken (fun _ _ _ _ => trivial)⟩⟩ rfl rfl hl.1 rfl (lv_room (Nat.le_of_ble_eq_true rfl)) dL_law_387 ⟨by show _ ≤ 1041; omega, by show _ ≤ 8305; omega⟩) hS (fun q _ h => hFc q h) hFc (fun u t H1 locs ht hvm hw hB hz1 hk1 hS => ?_)
  have hR : dk_R cp cq cs cn dp2 dq2 dg2 se2 pu2 hc ms9 kp kq kn := by
    rcases hw1 with ⟨-, q2, e1, e2, e3, e4, e5⟩ | ⟨-, -, e1, e2, e3, e4, e5⟩
    · rw [e1, e2, e3, e4, e5]; exact hR.adopt q2
    · rw [e1, e2, e3, e4, e5]; exact hR
  obtain rfl : u = (mp, mq, mo, hc, ms9, kp, kq, kn, dp2, dq2, dg2, r_363, se2) := by
    rcases hw1 with ⟨g, q2, e1, e2, e3, e4, e5⟩ | ⟨g, q2, e1, e2, e3, e4, e5⟩
    · rcases hw with ⟨w2, e9⟩ | ⟨w2, e9⟩
      · rw [e9, g, e1, e2, e3, e4]
      · exact absurd q2 w2
    · rcases hw with ⟨w2, e9⟩ | ⟨w2, e9⟩
      · exact absurd w2 q2
      · rw [e9, g, e1, e2, e3, e4]
  have hk : r_363 = r_363 := rfl
  obtain ⟨hP1, hK1, hD1⟩ := hB
  rw [ht] at hP1
  have hK1 := va_K.moved hvm.symm hK1
  obtain ⟨hP, hD⟩ := va_join (wr := [(ho, .inl (ao, 1, .inr (.inl ou))), (h0, .inr (0, [.int cp, .int cq, .long cs, .int cn, .int dp2, .int dq2, .int dg2, .ref h1, .ref h2])), (h1, .inl (a1, 8, .inl se2)), (h2, .inl (a2, 8, .inl pu2))]) (w1 := [(k0, .inr (1, [.int mp, .int mq, .int mo, .int hc, .long ms9, .int kp, .int kq, .int kn, .int dp2, .int dq2, .int dg2, .ref k1, .int r_363])), (k1, .inl (b1, 8, .inl se2))]) hP hD [1, 2] [0, 3, 4, 5] rfl rfl (by decide) (by decide) hk1 hFc hP1 hD1
  have hK := (hK.sub (tys' := [(ao, .long), (a1, .int), (a2, .int)]) [0, 2, 3] rfl).app hK1
  generalize H1 = H at hP hS ⊢
  have hP : va_P (dC, dI) vwCl [(ho, .inl (ao, 1, .inr (.inl ou))), (h0, .inr (0, [.int cp, .int cq, .long cs, .int cn, .int dp2, .int dq2, .int dg2, .ref h1, .ref h2])), (h1, .inl (a1, 8, .inl se2)), (h2, .inl (a2, 8, .inl pu2)), (k0, .inr (1, [.int mp, .int mq, .int mo, .int hc, .long ms9, .int kp, .int kq, .int kn, .int dp2, .int dq2, .int dg2, .ref k1, .int r_363])), (k1, .inl (b1, 8, .inl se2))] H := hP
  have hD : va_D (fun q : Nat => s.heap.size ≤ q) [(ho, .inl (ao, 1, .inr (.inl ou))), (h0, .inr (0, [.int cp, .int cq, .long cs, .int cn, .int dp2, .int dq2, .int dg2, .ref h1, .ref h2])), (h1, .inl (a1, 8, .inl se2)), (h2, .inl (a2, 8, .inl pu2)), (k0, .inr (1, [.int mp, .int mq, .int mo, .int hc, .long ms9, .int kp, .int kq, .int kn, .int dp2, .int dq2, .int dg2, .ref k1, .int r_363])), (k1, .inl (b1, 8, .inl se2))] := hD
  have hK : va_K (dC, dI) vwCl [(ao, .long), (a1, .int), (a2, .int), (b1, .int)] s := hK
  refine lv_aload_n hx hb dL_law_390 rfl (lv_at hl 3 rfl) ?_
  have hPc := hP.sub (ws' := [(k0, .inr (1, [.int mp, .int mq, .int mo, .int hc, .long ms9, .int kp, .int kq, .int kn, .int dp2, .int dq2, .int dg2, .ref k1, .int r_363])), (k1, .inl (b1, 8, .inl se2))]) [4, 5] rfl
  have hKc := hK.sub (tys' := [(b1, .int)]) [3] rfl
  refine vp_callSi (W.runV (As := []) (rest := []) ⟨hx, hb, hml, hown, hts⟩ (dk_m_thrown l dC dI k0 k1 b1 mp mq mo hc ms9 kp kq kn dp2 dq2 dg2 r_363 se2 ) (cwV 0 hts gL_law_X1_thrown rfl rfl rfl (by decide +kernel) ⟨Nat.le_of_ble_eq_true rfl, Nat.le_of_ble_eq_true rfl⟩) ⟨fun a U g mk q => by obtain ⟨q0, qP, qK⟩ := q; exact ⟨q0, qP, va_K.moved (u := U) (U := U.calling g mk a) (Vm.Alike.refl U.vm) qK⟩, va_recv hKc hPc (ci := 1) (q0 := 0) rfl rfl, fun U hU hW => ⟨rfl, by rw [hU]; exact hPc, va_K.moved hW.alike hKc⟩⟩ rfl rfl hl.1 rfl (lv_room (Nat.le_of_ble_eq_true rfl)) dL_law_391 ⟨by show _ ≤ 1041; omega, by show _ ≤ 8305; omega⟩) (fun r_391 hr_391 => ?_)
  refine lv_iload hx hb dL_law_394 (lv_at hl 0 rfl) ?_
  refine lv_icmp_eq (tgt := 401) hx hb dL_law_396 (by decide) (fun c_396 => ?_) (fun c_396 => ?_)
  · refine lv_goto (tgt := 1019) hx hb dL_law_401 (by decide) ?_
    exact kk _ _ cp cq cs cn dp2 dq2 dg2 se2 pu2 mp mq mo hc ms9 kp kq kn r_363 ou _ _ ls (by omega) (by omega) hR (hP.sub [0, 1, 2, 3, 4, 5] rfl) (hD.sub [0, 1, 2, 3, 4, 5] (by decide) rfl) hS (lv_sub hl [1, 2, 3, 4, 5] rfl)
  · exact absurd hr_391 c_396

set_option maxHeartbeats 4000000 in
set_option maxRecDepth 100000 in
theorem dk_case6 {p : Program} {l : Launch} {e : Env} {s : State} {m : MethodId} {below : List Frame} {meth : Method} {c : Code} {dC : Nat → ClassId} {dI : Nat → Nat → Nat} {b L : Nat} {xs : Nat → Int32} {h0 h1 h2 : Nat} {a1 a2 : ClassId} {k0 k1 : Nat} {b1 : ClassId} {ho : Nat} {ao : ClassId} (hl9 : l.stackTraces = false) (hL : L ≤ 3072) (C0 : lw_At p s m meth c b L xs) (hK : va_K (dC, dI) vwCl [(ao, .long), (a1, .int), (a2, .int), (b1, .int)] s) (hE : dk_E (fun q : Nat => s.heap.size ≤ q) s s.heap) {t9 cb sb : Nat} (ht9 : 6 * t9 + 6 ≤ L) (hcb : cb + 2 ≤ 1041) (hsb : sb + 12 ≤ 8305) (kk : dk_KK p l e s m below meth c dC dI b h0 h1 h2 a1 a2 k0 k1 b1 ho ao t9 (cb + 2) (sb + 12) 1019) : dk_KK p l e s m below meth c dC dI b h0 h1 h2 a1 a2 k0 k1 b1 ho ao t9 cb sb 429 := by
  obtain ⟨hx, hb, hr, hml, hown0, hts0, hX, hbl, hlocks, hgv⟩ := C0
  have hts := fun (w : Cond) (h : w ∈ wsL_law) => hts0 w (wsL_law_in w h)
  have hown : s.vm.findClass RL = some m.cls := hown0
  have hA : ∀ q : Nat, s.heap.size ≤ q → (fun q : Nat => s.heap.size ≤ q) q := fun _ h => h
  have hbA : ¬ (fun q : Nat => s.heap.size ≤ q) b := Nat.not_le.mpr hbl
  intro kc ks cp cq cs cn dp dq dg se pu mp mq mo hc ms9 kp kq kn th ou H locs ls hkc hks hR hP hD hS hl
  refine lv_aload_n hx hb dL_law_429 rfl (lv_at hl 1 rfl) ?_
  refine lv_aload_n hx hb dL_law_430 rfl (lv_at hl 0 rfl) ?_
  refine lv_iload hx hb dL_law_431 (lv_at hl 4 rfl) ?_
  refine lv_iconst (v := 1) hx hb dL_law_433 (by decide) ?_
  refine lv_iadd hx hb dL_law_434 ?_
  refine lv_topi (fun v_434 ev_434 => ?_)
  have ev_434 : v_434 = nI (6 * t9 + 1) := ev_434.trans (nI_add (6 * t9) 1)
  subst ev_434
  refine va_sld hx hb hX hbl hbA hS (vp_in_nI (n := 6 * t9 + 1) (by omega) (by omega)) dL_law_435 ?_
  refine lv_topi (fun v_435 ev_435 => ?_)
  have ev_435 : v_435 = xs (6 * t9 + 1) := ev_435.trans (congrArg xs (nI_clamp (by omega)))
  subst ev_435
  refine lv_aload_n hx hb dL_law_436 rfl (lv_at hl 0 rfl) ?_
  refine lv_iload hx hb dL_law_437 (lv_at hl 4 rfl) ?_
  refine lv_iconst (v := 2) hx hb dL_law_439 (by decide) ?_
  refine lv_iadd hx hb dL_law_440 ?_
  refine lv_topi (fun v_440 ev_440 => ?_)
  have ev_440 : v_440 = nI (6 * t9 + 2) := ev_440.trans (nI_add (6 * t9) 2)
  subst ev_440
  refine va_sld hx hb hX hbl hbA hS (vp_in_nI (n := 6 * t9 + 2) (by omega) (by omega)) dL_law_441 ?_
  refine lv_topi (fun v_441 ev_441 => ?_)
  have ev_441 : v_441 = xs (6 * t9 + 2) := ev_441.trans (congrArg xs (nI_clamp (by omega)))
  subst ev_441
  refine lv_aload_n hx hb dL_law_442 rfl (lv_at hl 3 rfl) ?_
  have hPc := hP.sub (ws' := [(ho, .inl (ao, 1, .inr (.inl ou))), (h0, .inr (0, [.int cp, .int cq, .long cs, .int cn, .int dp, .int dq, .int dg, .ref h1, .ref h2])), (h1, .inl (a1, 8, .inl se)), (h2, .inl (a2, 8, .inl pu))]) [0, 1, 2, 3] rfl
  have hDc := hD.sub (ws' := [(ho, .inl (ao, 1, .inr (.inl ou))), (h0, .inr (0, [.int cp, .int cq, .long cs, .int cn, .int dp, .int dq, .int dg, .ref h1, .ref h2])), (h1, .inl (a1, 8, .inl se)), (h2, .inl (a2, 8, .inl pu))]) [0, 1, 2, 3] (by decide) rfl
  have hKc := hK.sub (tys' := [(ao, .long), (a1, .int), (a2, .int)]) [0, 1, 2] rfl
  have hFc := va_free (wc := [(ho, .inl (ao, 1, .inr (.inl ou))), (h0, .inr (0, [.int cp, .int cq, .long cs, .int cn, .int dp, .int dq, .int dg, .ref h1, .ref h2])), (h1, .inl (a1, 8, .inl se)), (h2, .inl (a2, 8, .inl pu))]) hD hS hA [0, 1, 2, 3] rfl
  refine va_calli (vx_runSW (hh := [(0, 10, 13, 13), (0, 10, 17, 25), (0, 10, 21, 15)]) (As := [.ref h0, .int (xs (6 * t9 + 1)), .int (xs (6 * t9 + 2)), .ref ho]) (rest := []) ⟨hx, hb, hml, hown, hts⟩ (dk_l_key l hl9 dC dI h0 h1 h2 a1 a2 ho ao cp cq cs cn dp dq dg se pu ou (xs (6 * t9 + 1)) (xs (6 * t9 + 2)) hR.2.1 _) (vx_cwSW 4 hts gL_law_L_key rfl rfl rfl (by decide +kernel) ⟨Nat.le_of_ble_eq_true rfl, Nat.le_of_ble_eq_true rfl⟩) ⟨fun a U g mk q => by obtain ⟨q0, q1, qP, qK, qD, qE⟩ := q; exact ⟨q0, q1, qP, va_K.moved (u := U) (U := U.calling g mk a) (Vm.Alike.refl U.vm) qK, qD, qE.blind⟩, fun U hU hW => ⟨rfl, by rw [hU], by rw [hU]; exact hPc, va_K.moved hW.alike hKc, hDc.weaken (fun _ _ _ _ => trivial), hE.go hS hFc hU hW⟩⟩ rfl rfl hl.1 rfl (lv_room (Nat.le_of_ble_eq_true rfl)) dL_law_443 ⟨by show _ ≤ 1041; omega, by show _ ≤ 8305; omega⟩) hS (fun q _ h => hFc q h) hFc (fun r_443 u t H1 locs ht hvm hw hB hz1 hk1 hS => ?_)
  obtain ⟨v, hf, hw⟩ := hw
  obtain ⟨se2, pu2, ou2, rfl, hw1, hv1⟩ : ∃ (se2 pu2 : Nat → Int32) (ou2 : Nat → Int64), u = ((cp, cq, cs, cn, dp, dq, dg, se2, pu2), ou2) ∧ ((r_443 = 0 ∧ se2 = upd se (dk_n (xs (6 * t9 + 1))) (xs (6 * t9 + 2)) ∧ pu2 = upd pu (dk_n (xs (6 * t9 + 1))) v) ∨ (¬ r_443 = 0 ∧ se2 = se ∧ pu2 = pu)) ∧ (r_443 = 0 → ou2 0 = v.toInt64) := by
    rcases hw with ⟨q, rfl⟩ | ⟨q, rfl⟩
    · exact ⟨_, _, _, rfl, Or.inl ⟨q, rfl, rfl⟩, fun _ => rfl⟩
    · exact ⟨_, _, _, rfl, Or.inr ⟨q, rfl, rfl⟩, fun w9 => absurd w9 q⟩
  obtain ⟨hP1, hK1, hD1⟩ := hB
  rw [ht] at hP1
  have hK1 := va_K.moved hvm.symm hK1
  obtain ⟨hP, hD⟩ := va_join (wr := [(k0, .inr (1, [.int mp, .int mq, .int mo, .int hc, .long ms9, .int kp, .int kq, .int kn, .int dp, .int dq, .int dg, .ref k1, .int th])), (k1, .inl (b1, 8, .inl se))]) (w1 := [(ho, .inl (ao, 1, .inr (.inl ou2))), (h0, .inr (0, [.int cp, .int cq, .long cs, .int cn, .int dp, .int dq, .int dg, .ref h1, .ref h2])), (h1, .inl (a1, 8, .inl se2)), (h2, .inl (a2, 8, .inl pu2))]) hP hD [0, 1, 2, 3] [4, 5] rfl rfl (by decide) (by decide) hk1 hFc hP1 hD1
  have hK := (hK.sub (tys' := [(b1, .int)]) [3] rfl).app hK1
  generalize H1 = H at hP hS ⊢
  have hP : va_P (dC, dI) vwCl [(k0, .inr (1, [.int mp, .int mq, .int mo, .int hc, .long ms9, .int kp, .int kq, .int kn, .int dp, .int dq, .int dg, .ref k1, .int th])), (k1, .inl (b1, 8, .inl se)), (ho, .inl (ao, 1, .inr (.inl ou2))), (h0, .inr (0, [.int cp, .int cq, .long cs, .int cn, .int dp, .int dq, .int dg, .ref h1, .ref h2])), (h1, .inl (a1, 8, .inl se2)), (h2, .inl (a2, 8, .inl pu2))] H := hP
  have hD : va_D (fun q : Nat => s.heap.size ≤ q) [(k0, .inr (1, [.int mp, .int mq, .int mo, .int hc, .long ms9, .int kp, .int kq, .int kn, .int dp, .int dq, .int dg, .ref k1, .int th])), (k1, .inl (b1, 8, .inl se)), (ho, .inl (ao, 1, .inr (.inl ou2))), (h0, .inr (0, [.int cp, .int cq, .long cs, .int cn, .int dp, .int dq, .int dg, .ref h1, .ref h2])), (h1, .inl (a1, 8, .inl se2)), (h2, .inl (a2, 8, .inl pu2))] := hD
  have hK : va_K (dC, dI) vwCl [(b1, .int), (ao, .long), (a1, .int), (a2, .int)] s := hK
  refine lv_istore (lv' := [(5, .int r_443), (0, .ref b), (1, .ref h0), (2, .ref k0), (3, .ref ho), (4, .int (nI (6 * t9)))]) hx hb dL_law_446 hl (by decide) rfl (fun ls hl => ?_)
  refine lv_aload_n hx hb dL_law_448 rfl (lv_at hl 3 rfl) ?_
  refine lv_aload_n hx hb dL_law_449 rfl (lv_at hl 1 rfl) ?_
  refine lv_iload hx hb dL_law_450 (lv_at hl 5 rfl) ?_
  refine lv_iconst (v := 1) hx hb dL_law_452 (by decide) ?_
  refine lv_iadd hx hb dL_law_453 ?_
  refine lv_topi (fun v_453 ev_453 => ?_)
  have ev_453 : v_453 = nI (6 * t9 + 1) := ev_453.trans (nI_add (6 * t9) 1)
  subst ev_453
  refine va_sld hx hb hX hbl hbA hS (vp_in_nI (n := 6 * t9 + 1) (by omega) (by omega)) dL_law_454 ?_
  refine lv_topi (fun v_454 ev_454 => ?_)
  have ev_454 : v_454 = xs (6 * t9 + 1) := ev_454.trans (congrArg xs (nI_clamp (by omega)))
  subst ev_454
  refine lv_aload_n hx hb dL_law_455 rfl (lv_at hl 1 rfl) ?_
  refine lv_iload hx hb dL_law_456 (lv_at hl 5 rfl) ?_
  refine lv_iconst (v := 2) hx hb dL_law_458 (by decide) ?_
  refine lv_iadd hx hb dL_law_459 ?_
  refine lv_topi (fun v_459 ev_459 => ?_)
  have ev_459 : v_459 = nI (6 * t9 + 2) := ev_459.trans (nI_add (6 * t9) 2)
  subst ev_459
  refine va_sld hx hb hX hbl hbA hS (vp_in_nI (n := 6 * t9 + 2) (by omega) (by omega)) dL_law_460 ?_
  refine lv_topi (fun v_460 ev_460 => ?_)
  have ev_460 : v_460 = xs (6 * t9 + 2) := ev_460.trans (congrArg xs (nI_clamp (by omega)))
  subst ev_460
  have hPc := hP.sub (ws' := [(k0, .inr (1, [.int mp, .int mq, .int mo, .int hc, .long ms9, .int kp, .int kq, .int kn, .int dp, .int dq, .int dg, .ref k1, .int th])), (k1, .inl (b1, 8, .inl se))]) [0, 1] rfl
  have hDc := hD.sub (ws' := [(k0, .inr (1, [.int mp, .int mq, .int mo, .int hc, .long ms9, .int kp, .int kq, .int kn, .int dp, .int dq, .int dg, .ref k1, .int th])), (k1, .inl (b1, 8, .inl se))]) [0, 1] (by decide) rfl
  have hKc := hK.sub (tys' := [(b1, .int)]) [0] rfl
  have hFc := va_free (wc := [(k0, .inr (1, [.int mp, .int mq, .int mo, .int hc, .long ms9, .int kp, .int kq, .int kn, .int dp, .int dq, .int dg, .ref k1, .int th])), (k1, .inl (b1, 8, .inl se))]) hD hS hA [0, 1] rfl
  refine va_calli (va_runV (As := [.int (xs (6 * t9 + 1)), .int (xs (6 * t9 + 2))]) (rest := []) ⟨hx, hb, hml, hown, hts⟩ (dk_m_key l dC dI k0 k1 b1 mp mq mo hc ms9 kp kq kn dp dq dg th se (xs (6 * t9 + 1)) (xs (6 * t9 + 2)) hR.2.1 _) (cwV 2 hts gL_law_X1_key rfl rfl rfl (by decide +kernel) ⟨Nat.le_of_ble_eq_true rfl, Nat.le_of_ble_eq_true rfl⟩) ⟨fun a U g mk q => by obtain ⟨q0, q1, qP, qK, qD⟩ := q; exact ⟨q0, q1, qP, va_K.moved (u := U) (U := U.calling g mk a) (Vm.Alike.refl U.vm) qK, qD⟩, va_recv hKc hPc (ci := 1) (q0 := 0) rfl rfl, fun U hU hW => ⟨rfl, by rw [hU], by rw [hU]; exact hPc, va_K.moved hW.alike hKc, hDc.weaken (fun _ _ _ _ => trivial)⟩⟩ rfl rfl hl.1 rfl (lv_room (Nat.le_of_ble_eq_true rfl)) dL_law_461 ⟨by show _ ≤ 1041; omega, by show _ ≤ 8305; omega⟩) hS (fun q _ h => hFc q h) hFc (fun r_461 u t H1 locs ht hvm hw hB hz1 hk1 hS => ?_)
  obtain ⟨th2, hf2, hw⟩ := hw
  have hk : th2 = r_443 := congrArg Prod.fst (hf2.symm.trans hf)
  have hv0 : r_461 = v := congrArg Prod.snd (hf2.symm.trans hf)
  obtain rfl : u = (mp, mq, mo, hc, ms9, kp, kq, kn, dp, dq, dg, th2, se2) := by
    rcases hw1 with ⟨g, e1, -⟩ | ⟨g, e1, -⟩
    · rcases hw with ⟨w1, e9⟩ | ⟨w1, e9⟩
      · rw [e9, e1, w1]
      · exact absurd (hk.trans g) w1
    · rcases hw with ⟨w1, e9⟩ | ⟨w1, e9⟩
      · exact absurd (hk.symm.trans w1) g
      · rw [e9, e1]
  have hv : r_443 = 0 → ou2 0 = r_461.toInt64 := fun q => by rw [hv0]; exact hv1 q
  obtain ⟨hP1, hK1, hD1⟩ := hB
  rw [ht] at hP1
  have hK1 := va_K.moved hvm.symm hK1
  obtain ⟨hP, hD⟩ := va_join (wr := [(ho, .inl (ao, 1, .inr (.inl ou2))), (h0, .inr (0, [.int cp, .int cq, .long cs, .int cn, .int dp, .int dq, .int dg, .ref h1, .ref h2])), (h1, .inl (a1, 8, .inl se2)), (h2, .inl (a2, 8, .inl pu2))]) (w1 := [(k0, .inr (1, [.int mp, .int mq, .int mo, .int hc, .long ms9, .int kp, .int kq, .int kn, .int dp, .int dq, .int dg, .ref k1, .int th2])), (k1, .inl (b1, 8, .inl se2))]) hP hD [0, 1] [2, 3, 4, 5] rfl rfl (by decide) (by decide) hk1 hFc hP1 hD1
  have hK := (hK.sub (tys' := [(ao, .long), (a1, .int), (a2, .int)]) [1, 2, 3] rfl).app hK1
  generalize H1 = H at hP hS ⊢
  have hP : va_P (dC, dI) vwCl [(ho, .inl (ao, 1, .inr (.inl ou2))), (h0, .inr (0, [.int cp, .int cq, .long cs, .int cn, .int dp, .int dq, .int dg, .ref h1, .ref h2])), (h1, .inl (a1, 8, .inl se2)), (h2, .inl (a2, 8, .inl pu2)), (k0, .inr (1, [.int mp, .int mq, .int mo, .int hc, .long ms9, .int kp, .int kq, .int kn, .int dp, .int dq, .int dg, .ref k1, .int th2])), (k1, .inl (b1, 8, .inl se2))] H := hP
  have hD : va_D (fun q : Nat => s.heap.size ≤ q) [(ho, .inl (ao, 1, .inr (.inl ou2))), (h0, .inr (0, [.int cp, .int cq, .long cs, .int cn, .int dp, .int dq, .int dg, .ref h1, .ref h2])), (h1, .inl (a1, 8, .inl se2)), (h2, .inl (a2, 8, .inl pu2)), (k0, .inr (1, [.int mp, .int mq, .int mo, .int hc, .long ms9, .int kp, .int kq, .int kn, .int dp, .int dq, .int dg, .ref k1, .int th2])), (k1, .inl (b1, 8, .inl se2))] := hD
  have hK : va_K (dC, dI) vwCl [(ao, .long), (a1, .int), (a2, .int), (b1, .int)] s := hK
  refine lv_istore (lv' := [(6, .int r_461), (5, .int r_443), (0, .ref b), (1, .ref h0), (2, .ref k0), (3, .ref ho), (4, .int (nI (6 * t9)))]) hx hb dL_law_464 hl (by decide) rfl (fun ls hl => ?_)
  refine lv_aload_n hx hb dL_law_466 rfl (lv_at hl 4 rfl) ?_
  have hPc := hP.sub (ws' := [(k0, .inr (1, [.int mp, .int mq, .int mo, .int hc, .long ms9, .int kp, .int kq, .int kn, .int dp, .int dq, .int dg, .ref k1, .int th2])), (k1, .inl (b1, 8, .inl se2))]) [4, 5] rfl
  have hKc := hK.sub (tys' := [(b1, .int)]) [3] rfl
  refine vp_callSi (W.runV (As := []) (rest := []) ⟨hx, hb, hml, hown, hts⟩ (dk_m_thrown l dC dI k0 k1 b1 mp mq mo hc ms9 kp kq kn dp dq dg th2 se2 ) (cwV 0 hts gL_law_X1_thrown rfl rfl rfl (by decide +kernel) ⟨Nat.le_of_ble_eq_true rfl, Nat.le_of_ble_eq_true rfl⟩) ⟨fun a U g mk q => by obtain ⟨q0, qP, qK⟩ := q; exact ⟨q0, qP, va_K.moved (u := U) (U := U.calling g mk a) (Vm.Alike.refl U.vm) qK⟩, va_recv hKc hPc (ci := 1) (q0 := 0) rfl rfl, fun U hU hW => ⟨rfl, by rw [hU]; exact hPc, va_K.moved hW.alike hKc⟩⟩ rfl rfl hl.1 rfl (lv_room (Nat.le_of_ble_eq_true rfl)) dL_law_467 ⟨by show _ ≤ 1041; omega, by show _ ≤ 8305; omega⟩) (fun r_467 hr_467 => ?_)
  refine lv_iload hx hb dL_law_470 (lv_at hl 1 rfl) ?_
  refine lv_icmp_eq (tgt := 477) hx hb dL_law_472 (by decide) (fun c_472 => ?_) (fun c_472 => ?_)
  · refine lv_iload hx hb dL_law_477 (lv_at hl 1 rfl) ?_
    refine lv_if_ne (tgt := 494) hx hb dL_law_479 (by decide) (fun c_479 => ?_) (fun c_479 => ?_)
    · refine lv_goto (tgt := 1019) hx hb dL_law_494 (by decide) ?_
      exact kk _ _ cp cq cs cn dp dq dg se2 pu2 mp mq mo hc ms9 kp kq kn th2 ou2 _ _ ls (by omega) (by omega) (hR.key hf hw1) (hP.sub [0, 1, 2, 3, 4, 5] rfl) (hD.sub [0, 1, 2, 3, 4, 5] (by decide) rfl) hS (lv_sub hl [2, 3, 4, 5, 6] rfl)
    · refine lv_aload_n hx hb dL_law_482 rfl (lv_at hl 5 rfl) ?_
      refine lv_iconst (v := 0) hx hb dL_law_483 (by decide) ?_
      refine va_lald hx hb hK hP 0 0 rfl rfl (vp_in_nI (n := 0) (by decide) (by decide)) dL_law_484 ?_
      refine lv_topl (fun v_484 ev_484 => ?_)
      have ev_484 : v_484 = ou2 0 := ev_484.trans (congrArg ou2 sb_cl0)
      subst ev_484
      refine lv_iload hx hb dL_law_485 (lv_at hl 0 rfl) ?_
      refine lv_i2l hx hb dL_law_487 rfl ?_
      refine W.lcmp hx hb dL_law_488 ?_
      refine lv_if_eq (tgt := 494) hx hb dL_law_489 (by decide) (fun c_489 => ?_) (fun c_489 => ?_)
      · refine lv_goto (tgt := 1019) hx hb dL_law_494 (by decide) ?_
        exact kk _ _ cp cq cs cn dp dq dg se2 pu2 mp mq mo hc ms9 kp kq kn th2 ou2 _ _ ls (by omega) (by omega) (hR.key hf hw1) (hP.sub [0, 1, 2, 3, 4, 5] rfl) (hD.sub [0, 1, 2, 3, 4, 5] (by decide) rfl) hS (lv_sub hl [2, 3, 4, 5, 6] rfl)
      · exact absurd ((lg_cmp_eq _ _).mpr (hv c_479)) c_489
  · exact absurd (hr_467.trans hk) c_472

set_option maxHeartbeats 4000000 in
set_option maxRecDepth 100000 in
theorem dk_case8 {p : Program} {l : Launch} {e : Env} {s : State} {m : MethodId} {below : List Frame} {meth : Method} {c : Code} {dC : Nat → ClassId} {dI : Nat → Nat → Nat} {b L : Nat} {xs : Nat → Int32} {h0 h1 h2 : Nat} {a1 a2 : ClassId} {k0 k1 : Nat} {b1 : ClassId} {ho : Nat} {ao : ClassId} (hl9 : l.stackTraces = false) (hL : L ≤ 3072) (C0 : lw_At p s m meth c b L xs) (hK : va_K (dC, dI) vwCl [(ao, .long), (a1, .int), (a2, .int), (b1, .int)] s) (hE : dk_E (fun q : Nat => s.heap.size ≤ q) s s.heap) {t9 cb sb : Nat} (ht9 : 6 * t9 + 6 ≤ L) (hcb : cb + 2 ≤ 1041) (hsb : sb + 12 ≤ 8305) (kk : dk_KK p l e s m below meth c dC dI b h0 h1 h2 a1 a2 k0 k1 b1 ho ao t9 (cb + 2) (sb + 12) 1019) : dk_KK p l e s m below meth c dC dI b h0 h1 h2 a1 a2 k0 k1 b1 ho ao t9 cb sb 553 := by
  obtain ⟨hx, hb, hr, hml, hown0, hts0, hX, hbl, hlocks, hgv⟩ := C0
  have hts := fun (w : Cond) (h : w ∈ wsL_law) => hts0 w (wsL_law_in w h)
  have hown : s.vm.findClass RL = some m.cls := hown0
  have hA : ∀ q : Nat, s.heap.size ≤ q → (fun q : Nat => s.heap.size ≤ q) q := fun _ h => h
  have hbA : ¬ (fun q : Nat => s.heap.size ≤ q) b := Nat.not_le.mpr hbl
  intro kc ks cp cq cs cn dp dq dg se pu mp mq mo hc ms9 kp kq kn th ou H locs ls hkc hks hR hP hD hS hl
  refine lv_aload_n hx hb dL_law_553 rfl (lv_at hl 1 rfl) ?_
  refine lv_aload_n hx hb dL_law_554 rfl (lv_at hl 0 rfl) ?_
  refine lv_iload hx hb dL_law_555 (lv_at hl 4 rfl) ?_
  refine lv_iconst (v := 1) hx hb dL_law_557 (by decide) ?_
  refine lv_iadd hx hb dL_law_558 ?_
  refine lv_topi (fun v_558 ev_558 => ?_)
  have ev_558 : v_558 = nI (6 * t9 + 1) := ev_558.trans (nI_add (6 * t9) 1)
  subst ev_558
  refine va_sld hx hb hX hbl hbA hS (vp_in_nI (n := 6 * t9 + 1) (by omega) (by omega)) dL_law_559 ?_
  refine lv_topi (fun v_559 ev_559 => ?_)
  have ev_559 : v_559 = xs (6 * t9 + 1) := ev_559.trans (congrArg xs (nI_clamp (by omega)))
  subst ev_559
  have hPc := hP.sub (ws' := [(h0, .inr (0, [.int cp, .int cq, .long cs, .int cn, .int dp, .int dq, .int dg, .ref h1, .ref h2])), (h1, .inl (a1, 8, .inl se)), (h2, .inl (a2, 8, .inl pu))]) [1, 2, 3] rfl
  have hDc := hD.sub (ws' := [(h0, .inr (0, [.int cp, .int cq, .long cs, .int cn, .int dp, .int dq, .int dg, .ref h1, .ref h2])), (h1, .inl (a1, 8, .inl se)), (h2, .inl (a2, 8, .inl pu))]) [1, 2, 3] (by decide) rfl
  have hKc := hK.sub (tys' := [(a1, .int), (a2, .int)]) [1, 2] rfl
  have hFc := va_free (wc := [(h0, .inr (0, [.int cp, .int cq, .long cs, .int cn, .int dp, .int dq, .int dg, .ref h1, .ref h2])), (h1, .inl (a1, 8, .inl se)), (h2, .inl (a2, 8, .inl pu))]) hD hS hA [1, 2, 3] rfl
  refine va_calli (vx_runSW (hh := [(0, 5, 8, 30)]) (As := [.ref h0, .int (xs (6 * t9 + 1))]) (rest := []) ⟨hx, hb, hml, hown, hts⟩ (dk_l_forget l hl9 dC dI h0 h1 h2 a1 a2 cp cq cs cn dp dq dg se pu (xs (6 * t9 + 1))  _) (vx_cwSW 2 hts gL_law_L_forget rfl rfl rfl (by decide +kernel) ⟨Nat.le_of_ble_eq_true rfl, Nat.le_of_ble_eq_true rfl⟩) ⟨fun a U g mk q => by obtain ⟨q0, q1, qP, qK, qD, qE⟩ := q; exact ⟨q0, q1, qP, va_K.moved (u := U) (U := U.calling g mk a) (Vm.Alike.refl U.vm) qK, qD, qE.blind⟩, fun U hU hW => ⟨rfl, by rw [hU], by rw [hU]; exact hPc, va_K.moved hW.alike hKc, hDc.weaken (fun _ _ _ _ => trivial), hE.go hS hFc hU hW⟩⟩ rfl rfl hl.1 rfl (lv_room (Nat.le_of_ble_eq_true rfl)) dL_law_560 ⟨by show _ ≤ 1041; omega, by show _ ≤ 8305; omega⟩) hS (fun q _ h => hFc q h) hFc (fun r_560 u t H1 locs ht hvm hw hB hz1 hk1 hS => ?_)
  obtain ⟨se2, pu2, rfl, hw1⟩ : ∃ (se2 pu2 : Nat → Int32), u = (cp, cq, cs, cn, dp, dq, dg, se2, pu2) ∧ ((r_560 = 0 ∧ dk_ffor se (xs (6 * t9 + 1)) = 0 ∧ se2 = upd se (dk_n (xs (6 * t9 + 1))) 0 ∧ pu2 = upd pu (dk_n (xs (6 * t9 + 1))) 0) ∨ (r_560 = 1 ∧ dk_ffor se (xs (6 * t9 + 1)) = 1 ∧ se2 = se ∧ pu2 = pu)) := by
    rcases hw with ⟨q1, q2, rfl⟩ | ⟨q1, q2, rfl⟩
    · exact ⟨_, _, rfl, Or.inl ⟨q1, q2, rfl, rfl⟩⟩
    · exact ⟨_, _, rfl, Or.inr ⟨q1, q2, rfl, rfl⟩⟩
  obtain ⟨hP1, hK1, hD1⟩ := hB
  rw [ht] at hP1
  have hK1 := va_K.moved hvm.symm hK1
  obtain ⟨hP, hD⟩ := va_join (wr := [(ho, .inl (ao, 1, .inr (.inl ou))), (k0, .inr (1, [.int mp, .int mq, .int mo, .int hc, .long ms9, .int kp, .int kq, .int kn, .int dp, .int dq, .int dg, .ref k1, .int th])), (k1, .inl (b1, 8, .inl se))]) (w1 := [(h0, .inr (0, [.int cp, .int cq, .long cs, .int cn, .int dp, .int dq, .int dg, .ref h1, .ref h2])), (h1, .inl (a1, 8, .inl se2)), (h2, .inl (a2, 8, .inl pu2))]) hP hD [1, 2, 3] [0, 4, 5] rfl rfl (by decide) (by decide) hk1 hFc hP1 hD1
  have hK := (hK.sub (tys' := [(ao, .long), (b1, .int)]) [0, 3] rfl).app hK1
  generalize H1 = H at hP hS ⊢
  have hP : va_P (dC, dI) vwCl [(ho, .inl (ao, 1, .inr (.inl ou))), (k0, .inr (1, [.int mp, .int mq, .int mo, .int hc, .long ms9, .int kp, .int kq, .int kn, .int dp, .int dq, .int dg, .ref k1, .int th])), (k1, .inl (b1, 8, .inl se)), (h0, .inr (0, [.int cp, .int cq, .long cs, .int cn, .int dp, .int dq, .int dg, .ref h1, .ref h2])), (h1, .inl (a1, 8, .inl se2)), (h2, .inl (a2, 8, .inl pu2))] H := hP
  have hD : va_D (fun q : Nat => s.heap.size ≤ q) [(ho, .inl (ao, 1, .inr (.inl ou))), (k0, .inr (1, [.int mp, .int mq, .int mo, .int hc, .long ms9, .int kp, .int kq, .int kn, .int dp, .int dq, .int dg, .ref k1, .int th])), (k1, .inl (b1, 8, .inl se)), (h0, .inr (0, [.int cp, .int cq, .long cs, .int cn, .int dp, .int dq, .int dg, .ref h1, .ref h2])), (h1, .inl (a1, 8, .inl se2)), (h2, .inl (a2, 8, .inl pu2))] := hD
  have hK : va_K (dC, dI) vwCl [(ao, .long), (b1, .int), (a1, .int), (a2, .int)] s := hK
  refine lv_istore (lv' := [(5, .int r_560), (0, .ref b), (1, .ref h0), (2, .ref k0), (3, .ref ho), (4, .int (nI (6 * t9)))]) hx hb dL_law_563 hl (by decide) rfl (fun ls hl => ?_)
  refine lv_aload_n hx hb dL_law_565 rfl (lv_at hl 3 rfl) ?_
  refine lv_aload_n hx hb dL_law_566 rfl (lv_at hl 1 rfl) ?_
  refine lv_iload hx hb dL_law_567 (lv_at hl 5 rfl) ?_
  refine lv_iconst (v := 1) hx hb dL_law_569 (by decide) ?_
  refine lv_iadd hx hb dL_law_570 ?_
  refine lv_topi (fun v_570 ev_570 => ?_)
  have ev_570 : v_570 = nI (6 * t9 + 1) := ev_570.trans (nI_add (6 * t9) 1)
  subst ev_570
  refine va_sld hx hb hX hbl hbA hS (vp_in_nI (n := 6 * t9 + 1) (by omega) (by omega)) dL_law_571 ?_
  refine lv_topi (fun v_571 ev_571 => ?_)
  have ev_571 : v_571 = xs (6 * t9 + 1) := ev_571.trans (congrArg xs (nI_clamp (by omega)))
  subst ev_571
  have hPc := hP.sub (ws' := [(k0, .inr (1, [.int mp, .int mq, .int mo, .int hc, .long ms9, .int kp, .int kq, .int kn, .int dp, .int dq, .int dg, .ref k1, .int th])), (k1, .inl (b1, 8, .inl se))]) [1, 2] rfl
  have hDc := hD.sub (ws' := [(k0, .inr (1, [.int mp, .int mq, .int mo, .int hc, .long ms9, .int kp, .int kq, .int kn, .int dp, .int dq, .int dg, .ref k1, .int th])), (k1, .inl (b1, 8, .inl se))]) [1, 2] (by decide) rfl
  have hKc := hK.sub (tys' := [(b1, .int)]) [1] rfl
  have hFc := va_free (wc := [(k0, .inr (1, [.int mp, .int mq, .int mo, .int hc, .long ms9, .int kp, .int kq, .int kn, .int dp, .int dq, .int dg, .ref k1, .int th])), (k1, .inl (b1, 8, .inl se))]) hD hS hA [1, 2] rfl
  refine va_callv (va_runV (As := [.int (xs (6 * t9 + 1))]) (rest := []) ⟨hx, hb, hml, hown, hts⟩ (dk_m_forget l dC dI k0 k1 b1 mp mq mo hc ms9 kp kq kn dp dq dg th se (xs (6 * t9 + 1)) hR.km _) (cwV 1 hts gL_law_X1_forget rfl rfl rfl (by decide +kernel) ⟨Nat.le_of_ble_eq_true rfl, Nat.le_of_ble_eq_true rfl⟩) ⟨fun a U g mk q => by obtain ⟨q0, q1, qP, qK, qD⟩ := q; exact ⟨q0, q1, qP, va_K.moved (u := U) (U := U.calling g mk a) (Vm.Alike.refl U.vm) qK, qD⟩, va_recv hKc hPc (ci := 1) (q0 := 0) rfl rfl, fun U hU hW => ⟨rfl, by rw [hU], by rw [hU]; exact hPc, va_K.moved hW.alike hKc, hDc.weaken (fun _ _ _ _ => trivial)⟩⟩ rfl rfl hl.1 rfl (lv_room (Nat.le_of_ble_eq_true rfl)) dL_law_572 ⟨by show _ ≤ 1041; omega, by show _ ≤ 8305; omega⟩) hS (fun q _ h => hFc q h) hFc (fun u t H1 locs ht hvm hw hB hz1 hk1 hS => ?_)
  have hR : dk_R cp cq cs cn dp dq dg se2 pu2 hc ms9 kp kq kn := by
    rcases hw1 with ⟨-, -, e1, e2⟩ | ⟨-, -, e1, e2⟩
    · rw [e1, e2]; exact hR.forget _
    · rw [e1, e2]; exact hR
  obtain rfl : u = (mp, mq, mo, hc, ms9, kp, kq, kn, dp, dq, dg, r_560, se2) := by
    rcases hw1 with ⟨g, q2, e1, -⟩ | ⟨g, q2, e1, -⟩
    · rcases hw with ⟨w2, e9⟩ | ⟨w2, e9⟩
      · rw [e9, g, e1]
      · exact absurd (q2.symm.trans w2) (by decide)
    · rcases hw with ⟨w2, e9⟩ | ⟨w2, e9⟩
      · exact absurd (q2.symm.trans w2) (by decide)
      · rw [e9, g, e1]
  obtain ⟨hP1, hK1, hD1⟩ := hB
  rw [ht] at hP1
  have hK1 := va_K.moved hvm.symm hK1
  obtain ⟨hP, hD⟩ := va_join (wr := [(ho, .inl (ao, 1, .inr (.inl ou))), (h0, .inr (0, [.int cp, .int cq, .long cs, .int cn, .int dp, .int dq, .int dg, .ref h1, .ref h2])), (h1, .inl (a1, 8, .inl se2)), (h2, .inl (a2, 8, .inl pu2))]) (w1 := [(k0, .inr (1, [.int mp, .int mq, .int mo, .int hc, .long ms9, .int kp, .int kq, .int kn, .int dp, .int dq, .int dg, .ref k1, .int r_560])), (k1, .inl (b1, 8, .inl se2))]) hP hD [1, 2] [0, 3, 4, 5] rfl rfl (by decide) (by decide) hk1 hFc hP1 hD1
  have hK := (hK.sub (tys' := [(ao, .long), (a1, .int), (a2, .int)]) [0, 2, 3] rfl).app hK1
  generalize H1 = H at hP hS ⊢
  have hP : va_P (dC, dI) vwCl [(ho, .inl (ao, 1, .inr (.inl ou))), (h0, .inr (0, [.int cp, .int cq, .long cs, .int cn, .int dp, .int dq, .int dg, .ref h1, .ref h2])), (h1, .inl (a1, 8, .inl se2)), (h2, .inl (a2, 8, .inl pu2)), (k0, .inr (1, [.int mp, .int mq, .int mo, .int hc, .long ms9, .int kp, .int kq, .int kn, .int dp, .int dq, .int dg, .ref k1, .int r_560])), (k1, .inl (b1, 8, .inl se2))] H := hP
  have hD : va_D (fun q : Nat => s.heap.size ≤ q) [(ho, .inl (ao, 1, .inr (.inl ou))), (h0, .inr (0, [.int cp, .int cq, .long cs, .int cn, .int dp, .int dq, .int dg, .ref h1, .ref h2])), (h1, .inl (a1, 8, .inl se2)), (h2, .inl (a2, 8, .inl pu2)), (k0, .inr (1, [.int mp, .int mq, .int mo, .int hc, .long ms9, .int kp, .int kq, .int kn, .int dp, .int dq, .int dg, .ref k1, .int r_560])), (k1, .inl (b1, 8, .inl se2))] := hD
  have hK : va_K (dC, dI) vwCl [(ao, .long), (a1, .int), (a2, .int), (b1, .int)] s := hK
  refine lv_aload_n hx hb dL_law_575 rfl (lv_at hl 3 rfl) ?_
  have hPc := hP.sub (ws' := [(k0, .inr (1, [.int mp, .int mq, .int mo, .int hc, .long ms9, .int kp, .int kq, .int kn, .int dp, .int dq, .int dg, .ref k1, .int r_560])), (k1, .inl (b1, 8, .inl se2))]) [4, 5] rfl
  have hKc := hK.sub (tys' := [(b1, .int)]) [3] rfl
  refine vp_callSi (W.runV (As := []) (rest := []) ⟨hx, hb, hml, hown, hts⟩ (dk_m_thrown l dC dI k0 k1 b1 mp mq mo hc ms9 kp kq kn dp dq dg r_560 se2 ) (cwV 0 hts gL_law_X1_thrown rfl rfl rfl (by decide +kernel) ⟨Nat.le_of_ble_eq_true rfl, Nat.le_of_ble_eq_true rfl⟩) ⟨fun a U g mk q => by obtain ⟨q0, qP, qK⟩ := q; exact ⟨q0, qP, va_K.moved (u := U) (U := U.calling g mk a) (Vm.Alike.refl U.vm) qK⟩, va_recv hKc hPc (ci := 1) (q0 := 0) rfl rfl, fun U hU hW => ⟨rfl, by rw [hU]; exact hPc, va_K.moved hW.alike hKc⟩⟩ rfl rfl hl.1 rfl (lv_room (Nat.le_of_ble_eq_true rfl)) dL_law_576 ⟨by show _ ≤ 1041; omega, by show _ ≤ 8305; omega⟩) (fun r_576 hr_576 => ?_)
  refine lv_iload hx hb dL_law_579 (lv_at hl 0 rfl) ?_
  refine lv_icmp_eq (tgt := 586) hx hb dL_law_581 (by decide) (fun c_581 => ?_) (fun c_581 => ?_)
  · refine lv_goto (tgt := 1019) hx hb dL_law_586 (by decide) ?_
    exact kk _ _ cp cq cs cn dp dq dg se2 pu2 mp mq mo hc ms9 kp kq kn r_560 ou _ _ ls (by omega) (by omega) hR (hP.sub [0, 1, 2, 3, 4, 5] rfl) (hD.sub [0, 1, 2, 3, 4, 5] (by decide) rfl) hS (lv_sub hl [1, 2, 3, 4, 5] rfl)
  · exact absurd hr_576 c_581
