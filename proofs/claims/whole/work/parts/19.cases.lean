set_option maxHeartbeats 4000000 in
set_option maxRecDepth 100000 in
theorem dk_case0 {p : Program} {l : Launch} {e : Env} {s : State} {m : MethodId} {below : List Frame} {meth : Method} {c : Code} {dC : Nat → ClassId} {dI : Nat → Nat → Nat} {b L : Nat} {xs : Nat → Int32} {h0 h1 h2 : Nat} {a1 a2 : ClassId} {k0 k1 : Nat} {b1 : ClassId} {ho : Nat} {ao : ClassId} (hl9 : l.stackTraces = false) (hL : L ≤ 3072) (C0 : lw_At p s m meth c b L xs) (hK : va_K (dC, dI) vwCl [(ao, .long), (a1, .int), (a2, .int), (b1, .int)] s) (hE : dk_E (fun q : Nat => s.heap.size ≤ q) s s.heap) {t9 cb sb : Nat} (ht9 : 6 * t9 + 6 ≤ L) (hcb : cb + 2 ≤ 1041) (hsb : sb + 12 ≤ 8305) (kk : dk_KK p l e s m below meth c dC dI b h0 h1 h2 a1 a2 k0 k1 b1 ho ao t9 (cb + 2) (sb + 12) 1019) : dk_KK p l e s m below meth c dC dI b h0 h1 h2 a1 a2 k0 k1 b1 ho ao t9 cb sb 112 := by
  obtain ⟨hx, hb, hr, hml, hown0, hts0, hX, hbl, hlocks, hgv⟩ := C0
  have hts := fun (w : Cond) (h : w ∈ wsL_law) => hts0 w (wsL_law_in w h)
  have hown : s.vm.findClass RL = some m.cls := hown0
  have hA : ∀ q : Nat, s.heap.size ≤ q → (fun q : Nat => s.heap.size ≤ q) q := fun _ h => h
  have hbA : ¬ (fun q : Nat => s.heap.size ≤ q) b := Nat.not_le.mpr hbl
  intro kc ks cp cq cs cn dp dq dg se pu mp mq mo hc ms9 kp kq kn th ou H locs ls hkc hks hR hP hD hS hl
  refine lv_aload_n hx hb dL_law_112 rfl (lv_at hl 1 rfl) ?_
  refine lv_aload_n hx hb dL_law_113 rfl (lv_at hl 0 rfl) ?_
  refine lv_iload hx hb dL_law_114 (lv_at hl 4 rfl) ?_
  refine lv_iconst (v := 1) hx hb dL_law_116 (by decide) ?_
  refine lv_iadd hx hb dL_law_117 ?_
  refine lv_topi (fun v_117 ev_117 => ?_)
  have ev_117 : v_117 = nI (6 * t9 + 1) := ev_117.trans (nI_add (6 * t9) 1)
  subst ev_117
  refine va_sld hx hb hX hbl hbA hS (vp_in_nI (n := 6 * t9 + 1) (by omega) (by omega)) dL_law_118 ?_
  refine lv_topi (fun v_118 ev_118 => ?_)
  have ev_118 : v_118 = xs (6 * t9 + 1) := ev_118.trans (congrArg xs (nI_clamp (by omega)))
  subst ev_118
  refine lv_i2l hx hb dL_law_119 rfl ?_
  refine lv_bipush (v := 32) hx hb dL_law_120 (by decide) ?_
  refine lv_lshl hx hb dL_law_122 rfl ?_
  refine lv_aload_n hx hb dL_law_123 rfl (lv_at hl 0 rfl) ?_
  refine lv_iload hx hb dL_law_124 (lv_at hl 4 rfl) ?_
  refine lv_iconst (v := 2) hx hb dL_law_126 (by decide) ?_
  refine lv_iadd hx hb dL_law_127 ?_
  refine lv_topi (fun v_127 ev_127 => ?_)
  have ev_127 : v_127 = nI (6 * t9 + 2) := ev_127.trans (nI_add (6 * t9) 2)
  subst ev_127
  refine va_sld hx hb hX hbl hbA hS (vp_in_nI (n := 6 * t9 + 2) (by omega) (by omega)) dL_law_128 ?_
  refine lv_topi (fun v_128 ev_128 => ?_)
  have ev_128 : v_128 = xs (6 * t9 + 2) := ev_128.trans (congrArg xs (nI_clamp (by omega)))
  subst ev_128
  refine lv_i2l hx hb dL_law_129 rfl ?_
  refine lv_ldc2 (v := 4294967295) hx hb hown (hts (.constantLong RL 57 4294967295) (by decide +kernel)) dL_law_130 ?_
  refine lv_land hx hb dL_law_133 ?_
  refine lv_lor hx hb dL_law_134 ?_
  refine lv_topl (fun v_134 ev_134 => ?_)
  have ev_134 : v_134 = dk_lg (xs (6 * t9 + 1)) (xs (6 * t9 + 2)) := ev_134.trans rfl
  subst ev_134
  have hPc := hP.sub (ws' := [(h0, .inr (0, [.int cp, .int cq, .long cs, .int cn, .int dp, .int dq, .int dg, .ref h1, .ref h2])), (h1, .inl (a1, 8, .inl se)), (h2, .inl (a2, 8, .inl pu))]) [1, 2, 3] rfl
  have hDc := hD.sub (ws' := [(h0, .inr (0, [.int cp, .int cq, .long cs, .int cn, .int dp, .int dq, .int dg, .ref h1, .ref h2])), (h1, .inl (a1, 8, .inl se)), (h2, .inl (a2, 8, .inl pu))]) [1, 2, 3] (by decide) rfl
  have hKc := hK.sub (tys' := [(a1, .int), (a2, .int)]) [1, 2] rfl
  have hFc := va_free (wc := [(h0, .inr (0, [.int cp, .int cq, .long cs, .int cn, .int dp, .int dq, .int dg, .ref h1, .ref h2])), (h1, .inl (a1, 8, .inl se)), (h2, .inl (a2, 8, .inl pu))]) hD hS hA [1, 2, 3] rfl
  refine va_calli (va_runV (As := [.long (dk_lg (xs (6 * t9 + 1)) (xs (6 * t9 + 2)))]) (rest := []) ⟨hx, hb, hml, hown, hts⟩ (dk_c_generate l dC dI h0 h1 h2 a1 a2 cp cq cs cn dp dq dg se pu (dk_lg (xs (6 * t9 + 1)) (xs (6 * t9 + 2))) _) (cwV 1 hts gL_law_X0_generate rfl rfl rfl (by decide +kernel) ⟨Nat.le_of_ble_eq_true rfl, Nat.le_of_ble_eq_true rfl⟩) ⟨fun a U g mk q => by obtain ⟨q0, q1, qP, qK, qD⟩ := q; exact ⟨q0, q1, qP, va_K.moved (u := U) (U := U.calling g mk a) (Vm.Alike.refl U.vm) qK, qD⟩, va_recv hKc hPc (ci := 0) (q0 := 0) rfl rfl, fun U hU hW => ⟨rfl, by rw [hU], by rw [hU]; exact hPc, va_K.moved hW.alike hKc, hDc.weaken (fun _ _ _ _ => trivial)⟩⟩ rfl rfl hl.1 rfl (lv_room (Nat.le_of_ble_eq_true rfl)) dL_law_135 ⟨by show _ ≤ 1041; omega, by show _ ≤ 8305; omega⟩) hS (fun q _ h => hFc q h) hFc (fun r_135 u t H1 locs ht hvm hw hB hz1 hk1 hS => ?_)
  obtain ⟨hmk1, hw⟩ := hw
  obtain ⟨cp2, cq2, cs2, cn2, rfl, hg1⟩ : ∃ (cp2 cq2 : Int32) (cs2 : Int64) (cn2 : Int32), u = (cp2, cq2, cs2, cn2, dp, dq, dg, se, pu) ∧ dk_G1 (dk_lg (xs (6 * t9 + 1)) (xs (6 * t9 + 2))) r_135 cp cq cs cn cp2 cq2 cs2 cn2 := by
    rcases hw with ⟨q, rfl⟩ | ⟨n9, q1, q2, q3, q4, rfl⟩
    · exact ⟨_, _, _, _, rfl, Or.inl ⟨q, rfl, rfl, rfl, rfl⟩⟩
    · exact ⟨_, _, _, _, rfl, Or.inr ⟨n9, q1, q2, q3, q4, rfl, rfl, rfl, rfl⟩⟩
  obtain ⟨hP1, hK1, hD1⟩ := hB
  rw [ht] at hP1
  have hK1 := va_K.moved hvm.symm hK1
  obtain ⟨hP, hD⟩ := va_join (wr := [(ho, .inl (ao, 1, .inr (.inl ou))), (k0, .inr (1, [.int mp, .int mq, .int mo, .int hc, .long ms9, .int kp, .int kq, .int kn, .int dp, .int dq, .int dg, .ref k1, .int th])), (k1, .inl (b1, 8, .inl se))]) (w1 := [(h0, .inr (0, [.int cp2, .int cq2, .long cs2, .int cn2, .int dp, .int dq, .int dg, .ref h1, .ref h2])), (h1, .inl (a1, 8, .inl se)), (h2, .inl (a2, 8, .inl pu))]) hP hD [1, 2, 3] [0, 4, 5] rfl rfl (by decide) (by decide) hk1 hFc hP1 hD1
  have hK := (hK.sub (tys' := [(ao, .long), (b1, .int)]) [0, 3] rfl).app hK1
  generalize H1 = H at hP hS ⊢
  have hP : va_P (dC, dI) vwCl [(ho, .inl (ao, 1, .inr (.inl ou))), (k0, .inr (1, [.int mp, .int mq, .int mo, .int hc, .long ms9, .int kp, .int kq, .int kn, .int dp, .int dq, .int dg, .ref k1, .int th])), (k1, .inl (b1, 8, .inl se)), (h0, .inr (0, [.int cp2, .int cq2, .long cs2, .int cn2, .int dp, .int dq, .int dg, .ref h1, .ref h2])), (h1, .inl (a1, 8, .inl se)), (h2, .inl (a2, 8, .inl pu))] H := hP
  have hD : va_D (fun q : Nat => s.heap.size ≤ q) [(ho, .inl (ao, 1, .inr (.inl ou))), (k0, .inr (1, [.int mp, .int mq, .int mo, .int hc, .long ms9, .int kp, .int kq, .int kn, .int dp, .int dq, .int dg, .ref k1, .int th])), (k1, .inl (b1, 8, .inl se)), (h0, .inr (0, [.int cp2, .int cq2, .long cs2, .int cn2, .int dp, .int dq, .int dg, .ref h1, .ref h2])), (h1, .inl (a1, 8, .inl se)), (h2, .inl (a2, 8, .inl pu))] := hD
  have hK : va_K (dC, dI) vwCl [(ao, .long), (b1, .int), (a1, .int), (a2, .int)] s := hK
  refine lv_aload_n hx hb dL_law_138 rfl (lv_at hl 2 rfl) ?_
  refine lv_aload_n hx hb dL_law_139 rfl (lv_at hl 0 rfl) ?_
  refine lv_iload hx hb dL_law_140 (lv_at hl 4 rfl) ?_
  refine lv_iconst (v := 1) hx hb dL_law_142 (by decide) ?_
  refine lv_iadd hx hb dL_law_143 ?_
  refine lv_topi (fun v_143 ev_143 => ?_)
  have ev_143 : v_143 = nI (6 * t9 + 1) := ev_143.trans (nI_add (6 * t9) 1)
  subst ev_143
  refine va_sld hx hb hX hbl hbA hS (vp_in_nI (n := 6 * t9 + 1) (by omega) (by omega)) dL_law_144 ?_
  refine lv_topi (fun v_144 ev_144 => ?_)
  have ev_144 : v_144 = xs (6 * t9 + 1) := ev_144.trans (congrArg xs (nI_clamp (by omega)))
  subst ev_144
  refine lv_i2l hx hb dL_law_145 rfl ?_
  refine lv_bipush (v := 32) hx hb dL_law_146 (by decide) ?_
  refine lv_lshl hx hb dL_law_148 rfl ?_
  refine lv_aload_n hx hb dL_law_149 rfl (lv_at hl 0 rfl) ?_
  refine lv_iload hx hb dL_law_150 (lv_at hl 4 rfl) ?_
  refine lv_iconst (v := 2) hx hb dL_law_152 (by decide) ?_
  refine lv_iadd hx hb dL_law_153 ?_
  refine lv_topi (fun v_153 ev_153 => ?_)
  have ev_153 : v_153 = nI (6 * t9 + 2) := ev_153.trans (nI_add (6 * t9) 2)
  subst ev_153
  refine va_sld hx hb hX hbl hbA hS (vp_in_nI (n := 6 * t9 + 2) (by omega) (by omega)) dL_law_154 ?_
  refine lv_topi (fun v_154 ev_154 => ?_)
  have ev_154 : v_154 = xs (6 * t9 + 2) := ev_154.trans (congrArg xs (nI_clamp (by omega)))
  subst ev_154
  refine lv_i2l hx hb dL_law_155 rfl ?_
  refine lv_ldc2 (v := 4294967295) hx hb hown (hts (.constantLong RL 57 4294967295) (by decide +kernel)) dL_law_156 ?_
  refine lv_land hx hb dL_law_159 ?_
  refine lv_lor hx hb dL_law_160 ?_
  refine lv_topl (fun v_160 ev_160 => ?_)
  have ev_160 : v_160 = dk_lg (xs (6 * t9 + 1)) (xs (6 * t9 + 2)) := ev_160.trans rfl
  subst ev_160
  have hPc := hP.sub (ws' := [(k0, .inr (1, [.int mp, .int mq, .int mo, .int hc, .long ms9, .int kp, .int kq, .int kn, .int dp, .int dq, .int dg, .ref k1, .int th])), (k1, .inl (b1, 8, .inl se))]) [1, 2] rfl
  have hDc := hD.sub (ws' := [(k0, .inr (1, [.int mp, .int mq, .int mo, .int hc, .long ms9, .int kp, .int kq, .int kn, .int dp, .int dq, .int dg, .ref k1, .int th])), (k1, .inl (b1, 8, .inl se))]) [1, 2] (by decide) rfl
  have hKc := hK.sub (tys' := [(b1, .int)]) [1] rfl
  have hFc := va_free (wc := [(k0, .inr (1, [.int mp, .int mq, .int mo, .int hc, .long ms9, .int kp, .int kq, .int kn, .int dp, .int dq, .int dg, .ref k1, .int th])), (k1, .inl (b1, 8, .inl se))]) hD hS hA [1, 2] rfl
  refine va_calli (va_runV (As := [.long (dk_lg (xs (6 * t9 + 1)) (xs (6 * t9 + 2)))]) (rest := [.int r_135]) ⟨hx, hb, hml, hown, hts⟩ (dk_m_generate l dC dI k0 k1 b1 mp mq mo hc ms9 kp kq kn dp dq dg th se (dk_lg (xs (6 * t9 + 1)) (xs (6 * t9 + 2))) _) (cwV 1 hts gL_law_X1_generate rfl rfl rfl (by decide +kernel) ⟨Nat.le_of_ble_eq_true rfl, Nat.le_of_ble_eq_true rfl⟩) ⟨fun a U g mk q => by obtain ⟨q0, q1, qP, qK, qD⟩ := q; exact ⟨q0, q1, qP, va_K.moved (u := U) (U := U.calling g mk a) (Vm.Alike.refl U.vm) qK, qD⟩, va_recv hKc hPc (ci := 1) (q0 := 0) rfl rfl, fun U hU hW => ⟨rfl, by rw [hU], by rw [hU]; exact hPc, va_K.moved hW.alike hKc, hDc.weaken (fun _ _ _ _ => trivial)⟩⟩ rfl rfl hl.1 rfl (lv_room (Nat.le_of_ble_eq_true rfl)) dL_law_161 ⟨by show _ ≤ 1041; omega, by show _ ≤ 8305; omega⟩) hS (fun q _ h => hFc q h) hFc (fun r_161 u t H1 locs ht hvm hw hB hz1 hk1 hS => ?_)
  obtain ⟨hmk2, hw⟩ := hw
  obtain ⟨mp2, mq2, mo2, hc2, ms2, kp2, kq2, kn2, rfl, hg2⟩ : ∃ (mp2 mq2 mo2 hc2 : Int32) (ms2 : Int64) (kp2 kq2 kn2 : Int32), u = (mp2, mq2, mo2, hc2, ms2, kp2, kq2, kn2, dp, dq, dg, 0, se) ∧ dk_G2 (dk_lg (xs (6 * t9 + 1)) (xs (6 * t9 + 2))) r_161 hc ms9 kp kq kn hc2 ms2 kp2 kq2 kn2 := by
    rcases hw with ⟨q, mp2, rfl⟩ | ⟨n9, q1, q2, q3, q4, rfl⟩
    · exact ⟨_, _, _, _, _, _, _, _, rfl, Or.inl ⟨q, rfl, rfl, rfl, rfl, rfl⟩⟩
    · exact ⟨_, _, _, _, _, _, _, _, rfl, Or.inr ⟨n9, q1, q4, rfl, rfl, rfl, rfl, rfl⟩⟩
  obtain ⟨hP1, hK1, hD1⟩ := hB
  rw [ht] at hP1
  have hK1 := va_K.moved hvm.symm hK1
  obtain ⟨hP, hD⟩ := va_join (wr := [(ho, .inl (ao, 1, .inr (.inl ou))), (h0, .inr (0, [.int cp2, .int cq2, .long cs2, .int cn2, .int dp, .int dq, .int dg, .ref h1, .ref h2])), (h1, .inl (a1, 8, .inl se)), (h2, .inl (a2, 8, .inl pu))]) (w1 := [(k0, .inr (1, [.int mp2, .int mq2, .int mo2, .int hc2, .long ms2, .int kp2, .int kq2, .int kn2, .int dp, .int dq, .int dg, .ref k1, .int 0])), (k1, .inl (b1, 8, .inl se))]) hP hD [1, 2] [0, 3, 4, 5] rfl rfl (by decide) (by decide) hk1 hFc hP1 hD1
  have hK := (hK.sub (tys' := [(ao, .long), (a1, .int), (a2, .int)]) [0, 2, 3] rfl).app hK1
  generalize H1 = H at hP hS ⊢
  have hP : va_P (dC, dI) vwCl [(ho, .inl (ao, 1, .inr (.inl ou))), (h0, .inr (0, [.int cp2, .int cq2, .long cs2, .int cn2, .int dp, .int dq, .int dg, .ref h1, .ref h2])), (h1, .inl (a1, 8, .inl se)), (h2, .inl (a2, 8, .inl pu)), (k0, .inr (1, [.int mp2, .int mq2, .int mo2, .int hc2, .long ms2, .int kp2, .int kq2, .int kn2, .int dp, .int dq, .int dg, .ref k1, .int 0])), (k1, .inl (b1, 8, .inl se))] H := hP
  have hD : va_D (fun q : Nat => s.heap.size ≤ q) [(ho, .inl (ao, 1, .inr (.inl ou))), (h0, .inr (0, [.int cp2, .int cq2, .long cs2, .int cn2, .int dp, .int dq, .int dg, .ref h1, .ref h2])), (h1, .inl (a1, 8, .inl se)), (h2, .inl (a2, 8, .inl pu)), (k0, .inr (1, [.int mp2, .int mq2, .int mo2, .int hc2, .long ms2, .int kp2, .int kq2, .int kn2, .int dp, .int dq, .int dg, .ref k1, .int 0])), (k1, .inl (b1, 8, .inl se))] := hD
  have hK : va_K (dC, dI) vwCl [(ao, .long), (a1, .int), (a2, .int), (b1, .int)] s := hK
  refine lv_icmp_eq (tgt := 1019) hx hb dL_law_164 (by decide) (fun c_164 => ?_) (fun c_164 => ?_)
  · exact kk _ _ cp2 cq2 cs2 cn2 dp dq dg se pu mp2 mq2 mo2 hc2 ms2 kp2 kq2 kn2 0 ou _ _ ls (by omega) (by omega) (hR.gen c_164 hg1 hg2) (hP.sub [0, 1, 2, 3, 4, 5] rfl) (hD.sub [0, 1, 2, 3, 4, 5] (by decide) rfl) hS (lv_sub hl [0, 1, 2, 3, 4] rfl)
  · exact absurd (dk_Mk_one hmk1 hmk2) c_164

set_option maxHeartbeats 4000000 in
set_option maxRecDepth 100000 in
theorem dk_case1 {p : Program} {l : Launch} {e : Env} {s : State} {m : MethodId} {below : List Frame} {meth : Method} {c : Code} {dC : Nat → ClassId} {dI : Nat → Nat → Nat} {b L : Nat} {xs : Nat → Int32} {h0 h1 h2 : Nat} {a1 a2 : ClassId} {k0 k1 : Nat} {b1 : ClassId} {ho : Nat} {ao : ClassId} (hl9 : l.stackTraces = false) (hL : L ≤ 3072) (C0 : lw_At p s m meth c b L xs) (hK : va_K (dC, dI) vwCl [(ao, .long), (a1, .int), (a2, .int), (b1, .int)] s) (hE : dk_E (fun q : Nat => s.heap.size ≤ q) s s.heap) {t9 cb sb : Nat} (ht9 : 6 * t9 + 6 ≤ L) (hcb : cb + 2 ≤ 1041) (hsb : sb + 12 ≤ 8305) (kk : dk_KK p l e s m below meth c dC dI b h0 h1 h2 a1 a2 k0 k1 b1 ho ao t9 (cb + 2) (sb + 12) 1019) : dk_KK p l e s m below meth c dC dI b h0 h1 h2 a1 a2 k0 k1 b1 ho ao t9 cb sb 169 := by
  obtain ⟨hx, hb, hr, hml, hown0, hts0, hX, hbl, hlocks, hgv⟩ := C0
  have hts := fun (w : Cond) (h : w ∈ wsL_law) => hts0 w (wsL_law_in w h)
  have hown : s.vm.findClass RL = some m.cls := hown0
  have hA : ∀ q : Nat, s.heap.size ≤ q → (fun q : Nat => s.heap.size ≤ q) q := fun _ h => h
  have hbA : ¬ (fun q : Nat => s.heap.size ≤ q) b := Nat.not_le.mpr hbl
  intro kc ks cp cq cs cn dp dq dg se pu mp mq mo hc ms9 kp kq kn th ou H locs ls hkc hks hR hP hD hS hl
  refine lv_aload_n hx hb dL_law_169 rfl (lv_at hl 1 rfl) ?_
  refine lv_aload_n hx hb dL_law_170 rfl (lv_at hl 0 rfl) ?_
  refine lv_iload hx hb dL_law_171 (lv_at hl 4 rfl) ?_
  refine lv_iconst (v := 1) hx hb dL_law_173 (by decide) ?_
  refine lv_iadd hx hb dL_law_174 ?_
  refine lv_topi (fun v_174 ev_174 => ?_)
  have ev_174 : v_174 = nI (6 * t9 + 1) := ev_174.trans (nI_add (6 * t9) 1)
  subst ev_174
  refine va_sld hx hb hX hbl hbA hS (vp_in_nI (n := 6 * t9 + 1) (by omega) (by omega)) dL_law_175 ?_
  refine lv_topi (fun v_175 ev_175 => ?_)
  have ev_175 : v_175 = xs (6 * t9 + 1) := ev_175.trans (congrArg xs (nI_clamp (by omega)))
  subst ev_175
  have hPc := hP.sub (ws' := [(h0, .inr (0, [.int cp, .int cq, .long cs, .int cn, .int dp, .int dq, .int dg, .ref h1, .ref h2])), (h1, .inl (a1, 8, .inl se)), (h2, .inl (a2, 8, .inl pu))]) [1, 2, 3] rfl
  have hKc := hK.sub (tys' := [(a1, .int), (a2, .int)]) [1, 2] rfl
  refine vp_callSl (W.runV (As := [.int (xs (6 * t9 + 1))]) (rest := []) ⟨hx, hb, hml, hown, hts⟩ (dk_c_candidate l dC dI h0 h1 h2 a1 a2 cp cq cs cn dp dq dg se pu (xs (6 * t9 + 1))) (cwV 1 hts gL_law_X0_candidate rfl rfl rfl (by decide +kernel) ⟨Nat.le_of_ble_eq_true rfl, Nat.le_of_ble_eq_true rfl⟩) ⟨fun a U g mk q => by obtain ⟨q0, qP, qK⟩ := q; exact ⟨q0, qP, va_K.moved (u := U) (U := U.calling g mk a) (Vm.Alike.refl U.vm) qK⟩, va_recv hKc hPc (ci := 0) (q0 := 0) rfl rfl, fun U hU hW => ⟨rfl, by rw [hU]; exact hPc, va_K.moved hW.alike hKc⟩⟩ rfl rfl hl.1 rfl (lv_room (Nat.le_of_ble_eq_true rfl)) dL_law_176 ⟨by show _ ≤ 1041; omega, by show _ ≤ 8305; omega⟩) (fun r_176 hr_176 => ?_)
  refine lv_aload_n hx hb dL_law_179 rfl (lv_at hl 2 rfl) ?_
  refine lv_aload_n hx hb dL_law_180 rfl (lv_at hl 0 rfl) ?_
  refine lv_iload hx hb dL_law_181 (lv_at hl 4 rfl) ?_
  refine lv_iconst (v := 1) hx hb dL_law_183 (by decide) ?_
  refine lv_iadd hx hb dL_law_184 ?_
  refine lv_topi (fun v_184 ev_184 => ?_)
  have ev_184 : v_184 = nI (6 * t9 + 1) := ev_184.trans (nI_add (6 * t9) 1)
  subst ev_184
  refine va_sld hx hb hX hbl hbA hS (vp_in_nI (n := 6 * t9 + 1) (by omega) (by omega)) dL_law_185 ?_
  refine lv_topi (fun v_185 ev_185 => ?_)
  have ev_185 : v_185 = xs (6 * t9 + 1) := ev_185.trans (congrArg xs (nI_clamp (by omega)))
  subst ev_185
  have hPc := hP.sub (ws' := [(k0, .inr (1, [.int mp, .int mq, .int mo, .int hc, .long ms9, .int kp, .int kq, .int kn, .int dp, .int dq, .int dg, .ref k1, .int th])), (k1, .inl (b1, 8, .inl se))]) [4, 5] rfl
  have hDc := hD.sub (ws' := [(k0, .inr (1, [.int mp, .int mq, .int mo, .int hc, .long ms9, .int kp, .int kq, .int kn, .int dp, .int dq, .int dg, .ref k1, .int th])), (k1, .inl (b1, 8, .inl se))]) [4, 5] (by decide) rfl
  have hKc := hK.sub (tys' := [(b1, .int)]) [3] rfl
  have hFc := va_free (wc := [(k0, .inr (1, [.int mp, .int mq, .int mo, .int hc, .long ms9, .int kp, .int kq, .int kn, .int dp, .int dq, .int dg, .ref k1, .int th])), (k1, .inl (b1, 8, .inl se))]) hD hS hA [4, 5] rfl
  refine va_calll (va_runV (As := [.int (xs (6 * t9 + 1))]) (rest := [.long r_176]) ⟨hx, hb, hml, hown, hts⟩ (dk_m_candidate l dC dI k0 k1 b1 mp mq mo hc ms9 kp kq kn dp dq dg th se (xs (6 * t9 + 1)) _) (cwV 1 hts gL_law_X1_candidate rfl rfl rfl (by decide +kernel) ⟨Nat.le_of_ble_eq_true rfl, Nat.le_of_ble_eq_true rfl⟩) ⟨fun a U g mk q => by obtain ⟨q0, q1, qP, qK, qD⟩ := q; exact ⟨q0, q1, qP, va_K.moved (u := U) (U := U.calling g mk a) (Vm.Alike.refl U.vm) qK, qD⟩, va_recv hKc hPc (ci := 1) (q0 := 0) rfl rfl, fun U hU hW => ⟨rfl, by rw [hU], by rw [hU]; exact hPc, va_K.moved hW.alike hKc, hDc.weaken (fun _ _ _ _ => trivial)⟩⟩ rfl rfl hl.1 rfl (lv_room (Nat.le_of_ble_eq_true rfl)) dL_law_186 ⟨by show _ ≤ 1041; omega, by show _ ≤ 8305; omega⟩) hS (fun q _ h => hFc q h) hFc (fun r_186 u t H1 locs ht hvm hw hB hz1 hk1 hS => ?_)
  obtain ⟨rfl, hr2⟩ := hw
  obtain ⟨hP1, hK1, hD1⟩ := hB
  rw [ht] at hP1
  have hK1 := va_K.moved hvm.symm hK1
  obtain ⟨hP, hD⟩ := va_join (wr := [(ho, .inl (ao, 1, .inr (.inl ou))), (h0, .inr (0, [.int cp, .int cq, .long cs, .int cn, .int dp, .int dq, .int dg, .ref h1, .ref h2])), (h1, .inl (a1, 8, .inl se)), (h2, .inl (a2, 8, .inl pu))]) (w1 := [(k0, .inr (1, [.int mp, .int mq, .int mo, .int hc, .long ms9, .int kp, .int kq, .int kn, .int dp, .int dq, .int dg, .ref k1, .int 0])), (k1, .inl (b1, 8, .inl se))]) hP hD [4, 5] [0, 1, 2, 3] rfl rfl (by decide) (by decide) hk1 hFc hP1 hD1
  have hK := (hK.sub (tys' := [(ao, .long), (a1, .int), (a2, .int)]) [0, 1, 2] rfl).app hK1
  generalize H1 = H at hP hS ⊢
  have hP : va_P (dC, dI) vwCl [(ho, .inl (ao, 1, .inr (.inl ou))), (h0, .inr (0, [.int cp, .int cq, .long cs, .int cn, .int dp, .int dq, .int dg, .ref h1, .ref h2])), (h1, .inl (a1, 8, .inl se)), (h2, .inl (a2, 8, .inl pu)), (k0, .inr (1, [.int mp, .int mq, .int mo, .int hc, .long ms9, .int kp, .int kq, .int kn, .int dp, .int dq, .int dg, .ref k1, .int 0])), (k1, .inl (b1, 8, .inl se))] H := hP
  have hD : va_D (fun q : Nat => s.heap.size ≤ q) [(ho, .inl (ao, 1, .inr (.inl ou))), (h0, .inr (0, [.int cp, .int cq, .long cs, .int cn, .int dp, .int dq, .int dg, .ref h1, .ref h2])), (h1, .inl (a1, 8, .inl se)), (h2, .inl (a2, 8, .inl pu)), (k0, .inr (1, [.int mp, .int mq, .int mo, .int hc, .long ms9, .int kp, .int kq, .int kn, .int dp, .int dq, .int dg, .ref k1, .int 0])), (k1, .inl (b1, 8, .inl se))] := hD
  have hK : va_K (dC, dI) vwCl [(ao, .long), (a1, .int), (a2, .int), (b1, .int)] s := hK
  refine W.lcmp hx hb dL_law_189 ?_
  refine lv_if_eq (tgt := 1019) hx hb dL_law_190 (by decide) (fun c_190 => ?_) (fun c_190 => ?_)
  · exact kk _ _ cp cq cs cn dp dq dg se pu mp mq mo hc ms9 kp kq kn 0 ou _ _ ls (by omega) (by omega) hR (hP.sub [0, 1, 2, 3, 4, 5] rfl) (hD.sub [0, 1, 2, 3, 4, 5] (by decide) rfl) hS (lv_sub hl [0, 1, 2, 3, 4] rfl)
  · exact absurd ((lg_cmp_eq _ _).mpr (hr_176.trans (hr2.trans (hR.cand _)).symm)) c_190

set_option maxHeartbeats 4000000 in
set_option maxRecDepth 100000 in
theorem dk_case5 {p : Program} {l : Launch} {e : Env} {s : State} {m : MethodId} {below : List Frame} {meth : Method} {c : Code} {dC : Nat → ClassId} {dI : Nat → Nat → Nat} {b L : Nat} {xs : Nat → Int32} {h0 h1 h2 : Nat} {a1 a2 : ClassId} {k0 k1 : Nat} {b1 : ClassId} {ho : Nat} {ao : ClassId} (hl9 : l.stackTraces = false) (hL : L ≤ 3072) (C0 : lw_At p s m meth c b L xs) (hK : va_K (dC, dI) vwCl [(ao, .long), (a1, .int), (a2, .int), (b1, .int)] s) (hE : dk_E (fun q : Nat => s.heap.size ≤ q) s s.heap) {t9 cb sb : Nat} (ht9 : 6 * t9 + 6 ≤ L) (hcb : cb + 2 ≤ 1041) (hsb : sb + 12 ≤ 8305) (kk : dk_KK p l e s m below meth c dC dI b h0 h1 h2 a1 a2 k0 k1 b1 ho ao t9 (cb + 2) (sb + 12) 1019) : dk_KK p l e s m below meth c dC dI b h0 h1 h2 a1 a2 k0 k1 b1 ho ao t9 cb sb 404 := by
  obtain ⟨hx, hb, hr, hml, hown0, hts0, hX, hbl, hlocks, hgv⟩ := C0
  have hts := fun (w : Cond) (h : w ∈ wsL_law) => hts0 w (wsL_law_in w h)
  have hown : s.vm.findClass RL = some m.cls := hown0
  have hA : ∀ q : Nat, s.heap.size ≤ q → (fun q : Nat => s.heap.size ≤ q) q := fun _ h => h
  have hbA : ¬ (fun q : Nat => s.heap.size ≤ q) b := Nat.not_le.mpr hbl
  intro kc ks cp cq cs cn dp dq dg se pu mp mq mo hc ms9 kp kq kn th ou H locs ls hkc hks hR hP hD hS hl
  refine lv_aload_n hx hb dL_law_404 rfl (lv_at hl 1 rfl) ?_
  refine lv_aload_n hx hb dL_law_405 rfl (lv_at hl 0 rfl) ?_
  refine lv_iload hx hb dL_law_406 (lv_at hl 4 rfl) ?_
  refine lv_iconst (v := 1) hx hb dL_law_408 (by decide) ?_
  refine lv_iadd hx hb dL_law_409 ?_
  refine lv_topi (fun v_409 ev_409 => ?_)
  have ev_409 : v_409 = nI (6 * t9 + 1) := ev_409.trans (nI_add (6 * t9) 1)
  subst ev_409
  refine va_sld hx hb hX hbl hbA hS (vp_in_nI (n := 6 * t9 + 1) (by omega) (by omega)) dL_law_410 ?_
  refine lv_topi (fun v_410 ev_410 => ?_)
  have ev_410 : v_410 = xs (6 * t9 + 1) := ev_410.trans (congrArg xs (nI_clamp (by omega)))
  subst ev_410
  have hPc := hP.sub (ws' := [(h0, .inr (0, [.int cp, .int cq, .long cs, .int cn, .int dp, .int dq, .int dg, .ref h1, .ref h2])), (h1, .inl (a1, 8, .inl se)), (h2, .inl (a2, 8, .inl pu))]) [1, 2, 3] rfl
  have hKc := hK.sub (tys' := [(a1, .int), (a2, .int)]) [1, 2] rfl
  refine vp_callSi (W.runV (As := [.int (xs (6 * t9 + 1))]) (rest := []) ⟨hx, hb, hml, hown, hts⟩ (dk_c_domain l dC dI h0 h1 h2 a1 a2 cp cq cs cn dp dq dg se pu (xs (6 * t9 + 1))) (cwV 1 hts gL_law_X0_domain rfl rfl rfl (by decide +kernel) ⟨Nat.le_of_ble_eq_true rfl, Nat.le_of_ble_eq_true rfl⟩) ⟨fun a U g mk q => by obtain ⟨q0, qP, qK⟩ := q; exact ⟨q0, qP, va_K.moved (u := U) (U := U.calling g mk a) (Vm.Alike.refl U.vm) qK⟩, va_recv hKc hPc (ci := 0) (q0 := 0) rfl rfl, fun U hU hW => ⟨rfl, by rw [hU]; exact hPc, va_K.moved hW.alike hKc⟩⟩ rfl rfl hl.1 rfl (lv_room (Nat.le_of_ble_eq_true rfl)) dL_law_411 ⟨by show _ ≤ 1041; omega, by show _ ≤ 8305; omega⟩) (fun r_411 hr_411 => ?_)
  refine lv_aload_n hx hb dL_law_414 rfl (lv_at hl 2 rfl) ?_
  refine lv_aload_n hx hb dL_law_415 rfl (lv_at hl 0 rfl) ?_
  refine lv_iload hx hb dL_law_416 (lv_at hl 4 rfl) ?_
  refine lv_iconst (v := 1) hx hb dL_law_418 (by decide) ?_
  refine lv_iadd hx hb dL_law_419 ?_
  refine lv_topi (fun v_419 ev_419 => ?_)
  have ev_419 : v_419 = nI (6 * t9 + 1) := ev_419.trans (nI_add (6 * t9) 1)
  subst ev_419
  refine va_sld hx hb hX hbl hbA hS (vp_in_nI (n := 6 * t9 + 1) (by omega) (by omega)) dL_law_420 ?_
  refine lv_topi (fun v_420 ev_420 => ?_)
  have ev_420 : v_420 = xs (6 * t9 + 1) := ev_420.trans (congrArg xs (nI_clamp (by omega)))
  subst ev_420
  have hPc := hP.sub (ws' := [(k0, .inr (1, [.int mp, .int mq, .int mo, .int hc, .long ms9, .int kp, .int kq, .int kn, .int dp, .int dq, .int dg, .ref k1, .int th])), (k1, .inl (b1, 8, .inl se))]) [4, 5] rfl
  have hDc := hD.sub (ws' := [(k0, .inr (1, [.int mp, .int mq, .int mo, .int hc, .long ms9, .int kp, .int kq, .int kn, .int dp, .int dq, .int dg, .ref k1, .int th])), (k1, .inl (b1, 8, .inl se))]) [4, 5] (by decide) rfl
  have hKc := hK.sub (tys' := [(b1, .int)]) [3] rfl
  have hFc := va_free (wc := [(k0, .inr (1, [.int mp, .int mq, .int mo, .int hc, .long ms9, .int kp, .int kq, .int kn, .int dp, .int dq, .int dg, .ref k1, .int th])), (k1, .inl (b1, 8, .inl se))]) hD hS hA [4, 5] rfl
  refine va_calli (va_runV (As := [.int (xs (6 * t9 + 1))]) (rest := [.int r_411]) ⟨hx, hb, hml, hown, hts⟩ (dk_m_domain l dC dI k0 k1 b1 mp mq mo hc ms9 kp kq kn dp dq dg th se (xs (6 * t9 + 1)) _) (cwV 1 hts gL_law_X1_domain rfl rfl rfl (by decide +kernel) ⟨Nat.le_of_ble_eq_true rfl, Nat.le_of_ble_eq_true rfl⟩) ⟨fun a U g mk q => by obtain ⟨q0, q1, qP, qK, qD⟩ := q; exact ⟨q0, q1, qP, va_K.moved (u := U) (U := U.calling g mk a) (Vm.Alike.refl U.vm) qK, qD⟩, va_recv hKc hPc (ci := 1) (q0 := 0) rfl rfl, fun U hU hW => ⟨rfl, by rw [hU], by rw [hU]; exact hPc, va_K.moved hW.alike hKc, hDc.weaken (fun _ _ _ _ => trivial)⟩⟩ rfl rfl hl.1 rfl (lv_room (Nat.le_of_ble_eq_true rfl)) dL_law_421 ⟨by show _ ≤ 1041; omega, by show _ ≤ 8305; omega⟩) hS (fun q _ h => hFc q h) hFc (fun r_421 u t H1 locs ht hvm hw hB hz1 hk1 hS => ?_)
  obtain ⟨rfl, hr2⟩ := hw
  obtain ⟨hP1, hK1, hD1⟩ := hB
  rw [ht] at hP1
  have hK1 := va_K.moved hvm.symm hK1
  obtain ⟨hP, hD⟩ := va_join (wr := [(ho, .inl (ao, 1, .inr (.inl ou))), (h0, .inr (0, [.int cp, .int cq, .long cs, .int cn, .int dp, .int dq, .int dg, .ref h1, .ref h2])), (h1, .inl (a1, 8, .inl se)), (h2, .inl (a2, 8, .inl pu))]) (w1 := [(k0, .inr (1, [.int mp, .int mq, .int mo, .int hc, .long ms9, .int kp, .int kq, .int kn, .int dp, .int dq, .int dg, .ref k1, .int 0])), (k1, .inl (b1, 8, .inl se))]) hP hD [4, 5] [0, 1, 2, 3] rfl rfl (by decide) (by decide) hk1 hFc hP1 hD1
  have hK := (hK.sub (tys' := [(ao, .long), (a1, .int), (a2, .int)]) [0, 1, 2] rfl).app hK1
  generalize H1 = H at hP hS ⊢
  have hP : va_P (dC, dI) vwCl [(ho, .inl (ao, 1, .inr (.inl ou))), (h0, .inr (0, [.int cp, .int cq, .long cs, .int cn, .int dp, .int dq, .int dg, .ref h1, .ref h2])), (h1, .inl (a1, 8, .inl se)), (h2, .inl (a2, 8, .inl pu)), (k0, .inr (1, [.int mp, .int mq, .int mo, .int hc, .long ms9, .int kp, .int kq, .int kn, .int dp, .int dq, .int dg, .ref k1, .int 0])), (k1, .inl (b1, 8, .inl se))] H := hP
  have hD : va_D (fun q : Nat => s.heap.size ≤ q) [(ho, .inl (ao, 1, .inr (.inl ou))), (h0, .inr (0, [.int cp, .int cq, .long cs, .int cn, .int dp, .int dq, .int dg, .ref h1, .ref h2])), (h1, .inl (a1, 8, .inl se)), (h2, .inl (a2, 8, .inl pu)), (k0, .inr (1, [.int mp, .int mq, .int mo, .int hc, .long ms9, .int kp, .int kq, .int kn, .int dp, .int dq, .int dg, .ref k1, .int 0])), (k1, .inl (b1, 8, .inl se))] := hD
  have hK : va_K (dC, dI) vwCl [(ao, .long), (a1, .int), (a2, .int), (b1, .int)] s := hK
  refine lv_icmp_eq (tgt := 1019) hx hb dL_law_424 (by decide) (fun c_424 => ?_) (fun c_424 => ?_)
  · exact kk _ _ cp cq cs cn dp dq dg se pu mp mq mo hc ms9 kp kq kn 0 ou _ _ ls (by omega) (by omega) hR (hP.sub [0, 1, 2, 3, 4, 5] rfl) (hD.sub [0, 1, 2, 3, 4, 5] (by decide) rfl) hS (lv_sub hl [0, 1, 2, 3, 4] rfl)
  · exact absurd (hr_411.trans hr2.symm) c_424

set_option maxHeartbeats 4000000 in
set_option maxRecDepth 100000 in
theorem dk_case10 {p : Program} {l : Launch} {e : Env} {s : State} {m : MethodId} {below : List Frame} {meth : Method} {c : Code} {dC : Nat → ClassId} {dI : Nat → Nat → Nat} {b L : Nat} {xs : Nat → Int32} {h0 h1 h2 : Nat} {a1 a2 : ClassId} {k0 k1 : Nat} {b1 : ClassId} {ho : Nat} {ao : ClassId} (hl9 : l.stackTraces = false) (hL : L ≤ 3072) (C0 : lw_At p s m meth c b L xs) (hK : va_K (dC, dI) vwCl [(ao, .long), (a1, .int), (a2, .int), (b1, .int)] s) (hE : dk_E (fun q : Nat => s.heap.size ≤ q) s s.heap) {t9 cb sb : Nat} (ht9 : 6 * t9 + 6 ≤ L) (hcb : cb + 2 ≤ 1041) (hsb : sb + 12 ≤ 8305) (kk : dk_KK p l e s m below meth c dC dI b h0 h1 h2 a1 a2 k0 k1 b1 ho ao t9 (cb + 2) (sb + 12) 1019) : dk_KK p l e s m below meth c dC dI b h0 h1 h2 a1 a2 k0 k1 b1 ho ao t9 cb sb 652 := by
  obtain ⟨hx, hb, hr, hml, hown0, hts0, hX, hbl, hlocks, hgv⟩ := C0
  have hts := fun (w : Cond) (h : w ∈ wsL_law) => hts0 w (wsL_law_in w h)
  have hown : s.vm.findClass RL = some m.cls := hown0
  have hA : ∀ q : Nat, s.heap.size ≤ q → (fun q : Nat => s.heap.size ≤ q) q := fun _ h => h
  have hbA : ¬ (fun q : Nat => s.heap.size ≤ q) b := Nat.not_le.mpr hbl
  intro kc ks cp cq cs cn dp dq dg se pu mp mq mo hc ms9 kp kq kn th ou H locs ls hkc hks hR hP hD hS hl
  refine lv_aload_n hx hb dL_law_652 rfl (lv_at hl 1 rfl) ?_
  refine lv_aload_n hx hb dL_law_653 rfl (lv_at hl 0 rfl) ?_
  refine lv_iload hx hb dL_law_654 (lv_at hl 4 rfl) ?_
  refine lv_iconst (v := 1) hx hb dL_law_656 (by decide) ?_
  refine lv_iadd hx hb dL_law_657 ?_
  refine lv_topi (fun v_657 ev_657 => ?_)
  have ev_657 : v_657 = nI (6 * t9 + 1) := ev_657.trans (nI_add (6 * t9) 1)
  subst ev_657
  refine va_sld hx hb hX hbl hbA hS (vp_in_nI (n := 6 * t9 + 1) (by omega) (by omega)) dL_law_658 ?_
  refine lv_topi (fun v_658 ev_658 => ?_)
  have ev_658 : v_658 = xs (6 * t9 + 1) := ev_658.trans (congrArg xs (nI_clamp (by omega)))
  subst ev_658
  refine lv_i2l hx hb dL_law_659 rfl ?_
  refine lv_bipush (v := 32) hx hb dL_law_660 (by decide) ?_
  refine lv_lshl hx hb dL_law_662 rfl ?_
  refine lv_aload_n hx hb dL_law_663 rfl (lv_at hl 0 rfl) ?_
  refine lv_iload hx hb dL_law_664 (lv_at hl 4 rfl) ?_
  refine lv_iconst (v := 2) hx hb dL_law_666 (by decide) ?_
  refine lv_iadd hx hb dL_law_667 ?_
  refine lv_topi (fun v_667 ev_667 => ?_)
  have ev_667 : v_667 = nI (6 * t9 + 2) := ev_667.trans (nI_add (6 * t9) 2)
  subst ev_667
  refine va_sld hx hb hX hbl hbA hS (vp_in_nI (n := 6 * t9 + 2) (by omega) (by omega)) dL_law_668 ?_
  refine lv_topi (fun v_668 ev_668 => ?_)
  have ev_668 : v_668 = xs (6 * t9 + 2) := ev_668.trans (congrArg xs (nI_clamp (by omega)))
  subst ev_668
  refine lv_i2l hx hb dL_law_669 rfl ?_
  refine lv_ldc2 (v := 4294967295) hx hb hown (hts (.constantLong RL 57 4294967295) (by decide +kernel)) dL_law_670 ?_
  refine lv_land hx hb dL_law_673 ?_
  refine lv_lor hx hb dL_law_674 ?_
  refine lv_topl (fun v_674 ev_674 => ?_)
  have ev_674 : v_674 = dk_lg (xs (6 * t9 + 1)) (xs (6 * t9 + 2)) := ev_674.trans rfl
  subst ev_674
  refine vp_callSi (W.runV (As := [.long (dk_lg (xs (6 * t9 + 1)) (xs (6 * t9 + 2)))]) (rest := []) ⟨hx, hb, hml, hown, hts⟩ (dk_c_digest l h0 (dk_lg (xs (6 * t9 + 1)) (xs (6 * t9 + 2)))) (cwV 1 hts gL_law_X0_digest rfl rfl rfl (by decide +kernel) ⟨Nat.le_of_ble_eq_true rfl, Nat.le_of_ble_eq_true rfl⟩) ⟨fun _ _ _ _ q9 => q9, va_recv hK hP (ci := 0) (q0 := 1) rfl rfl, fun U hU hW => ⟨rfl, trivial⟩⟩ rfl rfl hl.1 rfl (lv_room (Nat.le_of_ble_eq_true rfl)) dL_law_675 ⟨by show _ ≤ 1041; omega, by show _ ≤ 8305; omega⟩) (fun r_675 hr_675 => ?_)
  refine lv_aload_n hx hb dL_law_678 rfl (lv_at hl 2 rfl) ?_
  refine lv_aload_n hx hb dL_law_679 rfl (lv_at hl 0 rfl) ?_
  refine lv_iload hx hb dL_law_680 (lv_at hl 4 rfl) ?_
  refine lv_iconst (v := 1) hx hb dL_law_682 (by decide) ?_
  refine lv_iadd hx hb dL_law_683 ?_
  refine lv_topi (fun v_683 ev_683 => ?_)
  have ev_683 : v_683 = nI (6 * t9 + 1) := ev_683.trans (nI_add (6 * t9) 1)
  subst ev_683
  refine va_sld hx hb hX hbl hbA hS (vp_in_nI (n := 6 * t9 + 1) (by omega) (by omega)) dL_law_684 ?_
  refine lv_topi (fun v_684 ev_684 => ?_)
  have ev_684 : v_684 = xs (6 * t9 + 1) := ev_684.trans (congrArg xs (nI_clamp (by omega)))
  subst ev_684
  refine lv_i2l hx hb dL_law_685 rfl ?_
  refine lv_bipush (v := 32) hx hb dL_law_686 (by decide) ?_
  refine lv_lshl hx hb dL_law_688 rfl ?_
  refine lv_aload_n hx hb dL_law_689 rfl (lv_at hl 0 rfl) ?_
  refine lv_iload hx hb dL_law_690 (lv_at hl 4 rfl) ?_
  refine lv_iconst (v := 2) hx hb dL_law_692 (by decide) ?_
  refine lv_iadd hx hb dL_law_693 ?_
  refine lv_topi (fun v_693 ev_693 => ?_)
  have ev_693 : v_693 = nI (6 * t9 + 2) := ev_693.trans (nI_add (6 * t9) 2)
  subst ev_693
  refine va_sld hx hb hX hbl hbA hS (vp_in_nI (n := 6 * t9 + 2) (by omega) (by omega)) dL_law_694 ?_
  refine lv_topi (fun v_694 ev_694 => ?_)
  have ev_694 : v_694 = xs (6 * t9 + 2) := ev_694.trans (congrArg xs (nI_clamp (by omega)))
  subst ev_694
  refine lv_i2l hx hb dL_law_695 rfl ?_
  refine lv_ldc2 (v := 4294967295) hx hb hown (hts (.constantLong RL 57 4294967295) (by decide +kernel)) dL_law_696 ?_
  refine lv_land hx hb dL_law_699 ?_
  refine lv_lor hx hb dL_law_700 ?_
  refine lv_topl (fun v_700 ev_700 => ?_)
  have ev_700 : v_700 = dk_lg (xs (6 * t9 + 1)) (xs (6 * t9 + 2)) := ev_700.trans rfl
  subst ev_700
  have hPc := hP.sub (ws' := [(k0, .inr (1, [.int mp, .int mq, .int mo, .int hc, .long ms9, .int kp, .int kq, .int kn, .int dp, .int dq, .int dg, .ref k1, .int th])), (k1, .inl (b1, 8, .inl se))]) [4, 5] rfl
  have hDc := hD.sub (ws' := [(k0, .inr (1, [.int mp, .int mq, .int mo, .int hc, .long ms9, .int kp, .int kq, .int kn, .int dp, .int dq, .int dg, .ref k1, .int th])), (k1, .inl (b1, 8, .inl se))]) [4, 5] (by decide) rfl
  have hKc := hK.sub (tys' := [(b1, .int)]) [3] rfl
  have hFc := va_free (wc := [(k0, .inr (1, [.int mp, .int mq, .int mo, .int hc, .long ms9, .int kp, .int kq, .int kn, .int dp, .int dq, .int dg, .ref k1, .int th])), (k1, .inl (b1, 8, .inl se))]) hD hS hA [4, 5] rfl
  refine va_calli (va_runV (As := [.long (dk_lg (xs (6 * t9 + 1)) (xs (6 * t9 + 2)))]) (rest := [.int r_675]) ⟨hx, hb, hml, hown, hts⟩ (dk_m_digest l dC dI k0 k1 b1 mp mq mo hc ms9 kp kq kn dp dq dg th se (dk_lg (xs (6 * t9 + 1)) (xs (6 * t9 + 2))) _) (cwV 1 hts gL_law_X1_digest rfl rfl rfl (by decide +kernel) ⟨Nat.le_of_ble_eq_true rfl, Nat.le_of_ble_eq_true rfl⟩) ⟨fun a U g mk q => by obtain ⟨q0, q1, qP, qK, qD⟩ := q; exact ⟨q0, q1, qP, va_K.moved (u := U) (U := U.calling g mk a) (Vm.Alike.refl U.vm) qK, qD⟩, va_recv hKc hPc (ci := 1) (q0 := 0) rfl rfl, fun U hU hW => ⟨rfl, by rw [hU], by rw [hU]; exact hPc, va_K.moved hW.alike hKc, hDc.weaken (fun _ _ _ _ => trivial)⟩⟩ rfl rfl hl.1 rfl (lv_room (Nat.le_of_ble_eq_true rfl)) dL_law_701 ⟨by show _ ≤ 1041; omega, by show _ ≤ 8305; omega⟩) hS (fun q _ h => hFc q h) hFc (fun r_701 u t H1 locs ht hvm hw hB hz1 hk1 hS => ?_)
  obtain ⟨rfl, hr2⟩ := hw
  obtain ⟨hP1, hK1, hD1⟩ := hB
  rw [ht] at hP1
  have hK1 := va_K.moved hvm.symm hK1
  obtain ⟨hP, hD⟩ := va_join (wr := [(ho, .inl (ao, 1, .inr (.inl ou))), (h0, .inr (0, [.int cp, .int cq, .long cs, .int cn, .int dp, .int dq, .int dg, .ref h1, .ref h2])), (h1, .inl (a1, 8, .inl se)), (h2, .inl (a2, 8, .inl pu))]) (w1 := [(k0, .inr (1, [.int mp, .int mq, .int mo, .int hc, .long ms9, .int kp, .int kq, .int kn, .int dp, .int dq, .int dg, .ref k1, .int 0])), (k1, .inl (b1, 8, .inl se))]) hP hD [4, 5] [0, 1, 2, 3] rfl rfl (by decide) (by decide) hk1 hFc hP1 hD1
  have hK := (hK.sub (tys' := [(ao, .long), (a1, .int), (a2, .int)]) [0, 1, 2] rfl).app hK1
  generalize H1 = H at hP hS ⊢
  have hP : va_P (dC, dI) vwCl [(ho, .inl (ao, 1, .inr (.inl ou))), (h0, .inr (0, [.int cp, .int cq, .long cs, .int cn, .int dp, .int dq, .int dg, .ref h1, .ref h2])), (h1, .inl (a1, 8, .inl se)), (h2, .inl (a2, 8, .inl pu)), (k0, .inr (1, [.int mp, .int mq, .int mo, .int hc, .long ms9, .int kp, .int kq, .int kn, .int dp, .int dq, .int dg, .ref k1, .int 0])), (k1, .inl (b1, 8, .inl se))] H := hP
  have hD : va_D (fun q : Nat => s.heap.size ≤ q) [(ho, .inl (ao, 1, .inr (.inl ou))), (h0, .inr (0, [.int cp, .int cq, .long cs, .int cn, .int dp, .int dq, .int dg, .ref h1, .ref h2])), (h1, .inl (a1, 8, .inl se)), (h2, .inl (a2, 8, .inl pu)), (k0, .inr (1, [.int mp, .int mq, .int mo, .int hc, .long ms9, .int kp, .int kq, .int kn, .int dp, .int dq, .int dg, .ref k1, .int 0])), (k1, .inl (b1, 8, .inl se))] := hD
  have hK : va_K (dC, dI) vwCl [(ao, .long), (a1, .int), (a2, .int), (b1, .int)] s := hK
  refine lv_icmp_eq (tgt := 1019) hx hb dL_law_704 (by decide) (fun c_704 => ?_) (fun c_704 => ?_)
  · exact kk _ _ cp cq cs cn dp dq dg se pu mp mq mo hc ms9 kp kq kn 0 ou _ _ ls (by omega) (by omega) hR (hP.sub [0, 1, 2, 3, 4, 5] rfl) (hD.sub [0, 1, 2, 3, 4, 5] (by decide) rfl) hS (lv_sub hl [0, 1, 2, 3, 4] rfl)
  · exact absurd (hr_675.trans hr2.symm) c_704

set_option maxHeartbeats 4000000 in
set_option maxRecDepth 100000 in
theorem dk_case3 {p : Program} {l : Launch} {e : Env} {s : State} {m : MethodId} {below : List Frame} {meth : Method} {c : Code} {dC : Nat → ClassId} {dI : Nat → Nat → Nat} {b L : Nat} {xs : Nat → Int32} {h0 h1 h2 : Nat} {a1 a2 : ClassId} {k0 k1 : Nat} {b1 : ClassId} {ho : Nat} {ao : ClassId} (hl9 : l.stackTraces = false) (hL : L ≤ 3072) (C0 : lw_At p s m meth c b L xs) (hK : va_K (dC, dI) vwCl [(ao, .long), (a1, .int), (a2, .int), (b1, .int)] s) (hE : dk_E (fun q : Nat => s.heap.size ≤ q) s s.heap) {t9 cb sb : Nat} (ht9 : 6 * t9 + 6 ≤ L) (hcb : cb + 2 ≤ 1041) (hsb : sb + 12 ≤ 8305) (kk : dk_KK p l e s m below meth c dC dI b h0 h1 h2 a1 a2 k0 k1 b1 ho ao t9 (cb + 2) (sb + 12) 1019) : dk_KK p l e s m below meth c dC dI b h0 h1 h2 a1 a2 k0 k1 b1 ho ao t9 cb sb 251 := by
  obtain ⟨hx, hb, hr, hml, hown0, hts0, hX, hbl, hlocks, hgv⟩ := C0
  have hts := fun (w : Cond) (h : w ∈ wsL_law) => hts0 w (wsL_law_in w h)
  have hown : s.vm.findClass RL = some m.cls := hown0
  have hA : ∀ q : Nat, s.heap.size ≤ q → (fun q : Nat => s.heap.size ≤ q) q := fun _ h => h
  have hbA : ¬ (fun q : Nat => s.heap.size ≤ q) b := Nat.not_le.mpr hbl
  intro kc ks cp cq cs cn dp dq dg se pu mp mq mo hc ms9 kp kq kn th ou H locs ls hkc hks hR hP hD hS hl
  refine lv_aload_n hx hb dL_law_251 rfl (lv_at hl 1 rfl) ?_
  refine lv_aload_n hx hb dL_law_252 rfl (lv_at hl 0 rfl) ?_
  refine lv_iload hx hb dL_law_253 (lv_at hl 4 rfl) ?_
  refine lv_iconst (v := 1) hx hb dL_law_255 (by decide) ?_
  refine lv_iadd hx hb dL_law_256 ?_
  refine lv_topi (fun v_256 ev_256 => ?_)
  have ev_256 : v_256 = nI (6 * t9 + 1) := ev_256.trans (nI_add (6 * t9) 1)
  subst ev_256
  refine va_sld hx hb hX hbl hbA hS (vp_in_nI (n := 6 * t9 + 1) (by omega) (by omega)) dL_law_257 ?_
  refine lv_topi (fun v_257 ev_257 => ?_)
  have ev_257 : v_257 = xs (6 * t9 + 1) := ev_257.trans (congrArg xs (nI_clamp (by omega)))
  subst ev_257
  refine lv_aload_n hx hb dL_law_258 rfl (lv_at hl 0 rfl) ?_
  refine lv_iload hx hb dL_law_259 (lv_at hl 4 rfl) ?_
  refine lv_iconst (v := 2) hx hb dL_law_261 (by decide) ?_
  refine lv_iadd hx hb dL_law_262 ?_
  refine lv_topi (fun v_262 ev_262 => ?_)
  have ev_262 : v_262 = nI (6 * t9 + 2) := ev_262.trans (nI_add (6 * t9) 2)
  subst ev_262
  refine va_sld hx hb hX hbl hbA hS (vp_in_nI (n := 6 * t9 + 2) (by omega) (by omega)) dL_law_263 ?_
  refine lv_topi (fun v_263 ev_263 => ?_)
  have ev_263 : v_263 = xs (6 * t9 + 2) := ev_263.trans (congrArg xs (nI_clamp (by omega)))
  subst ev_263
  refine lv_aload_n hx hb dL_law_264 rfl (lv_at hl 0 rfl) ?_
  refine lv_iload hx hb dL_law_265 (lv_at hl 4 rfl) ?_
  refine lv_iconst (v := 3) hx hb dL_law_267 (by decide) ?_
  refine lv_iadd hx hb dL_law_268 ?_
  refine lv_topi (fun v_268 ev_268 => ?_)
  have ev_268 : v_268 = nI (6 * t9 + 3) := ev_268.trans (nI_add (6 * t9) 3)
  subst ev_268
  refine va_sld hx hb hX hbl hbA hS (vp_in_nI (n := 6 * t9 + 3) (by omega) (by omega)) dL_law_269 ?_
  refine lv_topi (fun v_269 ev_269 => ?_)
  have ev_269 : v_269 = xs (6 * t9 + 3) := ev_269.trans (congrArg xs (nI_clamp (by omega)))
  subst ev_269
  refine lv_i2l hx hb dL_law_270 rfl ?_
  refine lv_bipush (v := 32) hx hb dL_law_271 (by decide) ?_
  refine lv_lshl hx hb dL_law_273 rfl ?_
  refine lv_aload_n hx hb dL_law_274 rfl (lv_at hl 0 rfl) ?_
  refine lv_iload hx hb dL_law_275 (lv_at hl 4 rfl) ?_
  refine lv_iconst (v := 4) hx hb dL_law_277 (by decide) ?_
  refine lv_iadd hx hb dL_law_278 ?_
  refine lv_topi (fun v_278 ev_278 => ?_)
  have ev_278 : v_278 = nI (6 * t9 + 4) := ev_278.trans (nI_add (6 * t9) 4)
  subst ev_278
  refine va_sld hx hb hX hbl hbA hS (vp_in_nI (n := 6 * t9 + 4) (by omega) (by omega)) dL_law_279 ?_
  refine lv_topi (fun v_279 ev_279 => ?_)
  have ev_279 : v_279 = xs (6 * t9 + 4) := ev_279.trans (congrArg xs (nI_clamp (by omega)))
  subst ev_279
  refine lv_i2l hx hb dL_law_280 rfl ?_
  refine lv_ldc2 (v := 4294967295) hx hb hown (hts (.constantLong RL 57 4294967295) (by decide +kernel)) dL_law_281 ?_
  refine lv_land hx hb dL_law_284 ?_
  refine lv_lor hx hb dL_law_285 ?_
  refine lv_topl (fun v_285 ev_285 => ?_)
  have ev_285 : v_285 = dk_lg (xs (6 * t9 + 3)) (xs (6 * t9 + 4)) := ev_285.trans rfl
  subst ev_285
  refine lv_aload_n hx hb dL_law_286 rfl (lv_at hl 0 rfl) ?_
  refine lv_iload hx hb dL_law_287 (lv_at hl 4 rfl) ?_
  refine lv_iconst (v := 5) hx hb dL_law_289 (by decide) ?_
  refine lv_iadd hx hb dL_law_290 ?_
  refine lv_topi (fun v_290 ev_290 => ?_)
  have ev_290 : v_290 = nI (6 * t9 + 5) := ev_290.trans (nI_add (6 * t9) 5)
  subst ev_290
  refine va_sld hx hb hX hbl hbA hS (vp_in_nI (n := 6 * t9 + 5) (by omega) (by omega)) dL_law_291 ?_
  refine lv_topi (fun v_291 ev_291 => ?_)
  have ev_291 : v_291 = xs (6 * t9 + 5) := ev_291.trans (congrArg xs (nI_clamp (by omega)))
  subst ev_291
  refine vp_callSi (W.runV (As := [.int (xs (6 * t9 + 1)), .int (xs (6 * t9 + 2)), .long (dk_lg (xs (6 * t9 + 3)) (xs (6 * t9 + 4))), .int (xs (6 * t9 + 5))]) (rest := []) ⟨hx, hb, hml, hown, hts⟩ (dk_c_valid l h0 (xs (6 * t9 + 1)) (xs (6 * t9 + 2)) (dk_lg (xs (6 * t9 + 3)) (xs (6 * t9 + 4))) (xs (6 * t9 + 5))) (cwV 4 hts gL_law_X0_valid rfl rfl rfl (by decide +kernel) ⟨Nat.le_of_ble_eq_true rfl, Nat.le_of_ble_eq_true rfl⟩) ⟨fun _ _ _ _ q9 => q9, va_recv hK hP (ci := 0) (q0 := 1) rfl rfl, fun U hU hW => ⟨rfl, trivial⟩⟩ rfl rfl hl.1 rfl (lv_room (Nat.le_of_ble_eq_true rfl)) dL_law_292 ⟨by show _ ≤ 1041; omega, by show _ ≤ 8305; omega⟩) (fun r_292 hr_292 => ?_)
  refine lv_aload_n hx hb dL_law_295 rfl (lv_at hl 2 rfl) ?_
  refine lv_aload_n hx hb dL_law_296 rfl (lv_at hl 0 rfl) ?_
  refine lv_iload hx hb dL_law_297 (lv_at hl 4 rfl) ?_
  refine lv_iconst (v := 1) hx hb dL_law_299 (by decide) ?_
  refine lv_iadd hx hb dL_law_300 ?_
  refine lv_topi (fun v_300 ev_300 => ?_)
  have ev_300 : v_300 = nI (6 * t9 + 1) := ev_300.trans (nI_add (6 * t9) 1)
  subst ev_300
  refine va_sld hx hb hX hbl hbA hS (vp_in_nI (n := 6 * t9 + 1) (by omega) (by omega)) dL_law_301 ?_
  refine lv_topi (fun v_301 ev_301 => ?_)
  have ev_301 : v_301 = xs (6 * t9 + 1) := ev_301.trans (congrArg xs (nI_clamp (by omega)))
  subst ev_301
  refine lv_aload_n hx hb dL_law_302 rfl (lv_at hl 0 rfl) ?_
  refine lv_iload hx hb dL_law_303 (lv_at hl 4 rfl) ?_
  refine lv_iconst (v := 2) hx hb dL_law_305 (by decide) ?_
  refine lv_iadd hx hb dL_law_306 ?_
  refine lv_topi (fun v_306 ev_306 => ?_)
  have ev_306 : v_306 = nI (6 * t9 + 2) := ev_306.trans (nI_add (6 * t9) 2)
  subst ev_306
  refine va_sld hx hb hX hbl hbA hS (vp_in_nI (n := 6 * t9 + 2) (by omega) (by omega)) dL_law_307 ?_
  refine lv_topi (fun v_307 ev_307 => ?_)
  have ev_307 : v_307 = xs (6 * t9 + 2) := ev_307.trans (congrArg xs (nI_clamp (by omega)))
  subst ev_307
  refine lv_aload_n hx hb dL_law_308 rfl (lv_at hl 0 rfl) ?_
  refine lv_iload hx hb dL_law_309 (lv_at hl 4 rfl) ?_
  refine lv_iconst (v := 3) hx hb dL_law_311 (by decide) ?_
  refine lv_iadd hx hb dL_law_312 ?_
  refine lv_topi (fun v_312 ev_312 => ?_)
  have ev_312 : v_312 = nI (6 * t9 + 3) := ev_312.trans (nI_add (6 * t9) 3)
  subst ev_312
  refine va_sld hx hb hX hbl hbA hS (vp_in_nI (n := 6 * t9 + 3) (by omega) (by omega)) dL_law_313 ?_
  refine lv_topi (fun v_313 ev_313 => ?_)
  have ev_313 : v_313 = xs (6 * t9 + 3) := ev_313.trans (congrArg xs (nI_clamp (by omega)))
  subst ev_313
  refine lv_i2l hx hb dL_law_314 rfl ?_
  refine lv_bipush (v := 32) hx hb dL_law_315 (by decide) ?_
  refine lv_lshl hx hb dL_law_317 rfl ?_
  refine lv_aload_n hx hb dL_law_318 rfl (lv_at hl 0 rfl) ?_
  refine lv_iload hx hb dL_law_319 (lv_at hl 4 rfl) ?_
  refine lv_iconst (v := 4) hx hb dL_law_321 (by decide) ?_
  refine lv_iadd hx hb dL_law_322 ?_
  refine lv_topi (fun v_322 ev_322 => ?_)
  have ev_322 : v_322 = nI (6 * t9 + 4) := ev_322.trans (nI_add (6 * t9) 4)
  subst ev_322
  refine va_sld hx hb hX hbl hbA hS (vp_in_nI (n := 6 * t9 + 4) (by omega) (by omega)) dL_law_323 ?_
  refine lv_topi (fun v_323 ev_323 => ?_)
  have ev_323 : v_323 = xs (6 * t9 + 4) := ev_323.trans (congrArg xs (nI_clamp (by omega)))
  subst ev_323
  refine lv_i2l hx hb dL_law_324 rfl ?_
  refine lv_ldc2 (v := 4294967295) hx hb hown (hts (.constantLong RL 57 4294967295) (by decide +kernel)) dL_law_325 ?_
  refine lv_land hx hb dL_law_328 ?_
  refine lv_lor hx hb dL_law_329 ?_
  refine lv_topl (fun v_329 ev_329 => ?_)
  have ev_329 : v_329 = dk_lg (xs (6 * t9 + 3)) (xs (6 * t9 + 4)) := ev_329.trans rfl
  subst ev_329
  refine lv_aload_n hx hb dL_law_330 rfl (lv_at hl 0 rfl) ?_
  refine lv_iload hx hb dL_law_331 (lv_at hl 4 rfl) ?_
  refine lv_iconst (v := 5) hx hb dL_law_333 (by decide) ?_
  refine lv_iadd hx hb dL_law_334 ?_
  refine lv_topi (fun v_334 ev_334 => ?_)
  have ev_334 : v_334 = nI (6 * t9 + 5) := ev_334.trans (nI_add (6 * t9) 5)
  subst ev_334
  refine va_sld hx hb hX hbl hbA hS (vp_in_nI (n := 6 * t9 + 5) (by omega) (by omega)) dL_law_335 ?_
  refine lv_topi (fun v_335 ev_335 => ?_)
  have ev_335 : v_335 = xs (6 * t9 + 5) := ev_335.trans (congrArg xs (nI_clamp (by omega)))
  subst ev_335
  have hPc := hP.sub (ws' := [(k0, .inr (1, [.int mp, .int mq, .int mo, .int hc, .long ms9, .int kp, .int kq, .int kn, .int dp, .int dq, .int dg, .ref k1, .int th])), (k1, .inl (b1, 8, .inl se))]) [4, 5] rfl
  have hDc := hD.sub (ws' := [(k0, .inr (1, [.int mp, .int mq, .int mo, .int hc, .long ms9, .int kp, .int kq, .int kn, .int dp, .int dq, .int dg, .ref k1, .int th])), (k1, .inl (b1, 8, .inl se))]) [4, 5] (by decide) rfl
  have hKc := hK.sub (tys' := [(b1, .int)]) [3] rfl
  have hFc := va_free (wc := [(k0, .inr (1, [.int mp, .int mq, .int mo, .int hc, .long ms9, .int kp, .int kq, .int kn, .int dp, .int dq, .int dg, .ref k1, .int th])), (k1, .inl (b1, 8, .inl se))]) hD hS hA [4, 5] rfl
  refine va_calli (va_runV (As := [.int (xs (6 * t9 + 1)), .int (xs (6 * t9 + 2)), .long (dk_lg (xs (6 * t9 + 3)) (xs (6 * t9 + 4))), .int (xs (6 * t9 + 5))]) (rest := [.int r_292]) ⟨hx, hb, hml, hown, hts⟩ (dk_m_valid l dC dI k0 k1 b1 mp mq mo hc ms9 kp kq kn dp dq dg th se (xs (6 * t9 + 1)) (xs (6 * t9 + 2)) (dk_lg (xs (6 * t9 + 3)) (xs (6 * t9 + 4))) (xs (6 * t9 + 5)) _) (cwV 4 hts gL_law_X1_valid rfl rfl rfl (by decide +kernel) ⟨Nat.le_of_ble_eq_true rfl, Nat.le_of_ble_eq_true rfl⟩) ⟨fun a U g mk q => by obtain ⟨q0, q1, qP, qK, qD⟩ := q; exact ⟨q0, q1, qP, va_K.moved (u := U) (U := U.calling g mk a) (Vm.Alike.refl U.vm) qK, qD⟩, va_recv hKc hPc (ci := 1) (q0 := 0) rfl rfl, fun U hU hW => ⟨rfl, by rw [hU], by rw [hU]; exact hPc, va_K.moved hW.alike hKc, hDc.weaken (fun _ _ _ _ => trivial)⟩⟩ rfl rfl hl.1 rfl (lv_room (Nat.le_of_ble_eq_true rfl)) dL_law_336 ⟨by show _ ≤ 1041; omega, by show _ ≤ 8305; omega⟩) hS (fun q _ h => hFc q h) hFc (fun r_336 u t H1 locs ht hvm hw hB hz1 hk1 hS => ?_)
  obtain ⟨hr2, mp2, ro2, rfl⟩ := hw
  obtain ⟨hP1, hK1, hD1⟩ := hB
  rw [ht] at hP1
  have hK1 := va_K.moved hvm.symm hK1
  obtain ⟨hP, hD⟩ := va_join (wr := [(ho, .inl (ao, 1, .inr (.inl ou))), (h0, .inr (0, [.int cp, .int cq, .long cs, .int cn, .int dp, .int dq, .int dg, .ref h1, .ref h2])), (h1, .inl (a1, 8, .inl se)), (h2, .inl (a2, 8, .inl pu))]) (w1 := [(k0, .inr (1, [.int mp2, .int (nI (dk_q (dk_lg (xs (6 * t9 + 3)) (xs (6 * t9 + 4))))), .int ro2, .int hc, .long ms9, .int kp, .int kq, .int kn, .int dp, .int dq, .int dg, .ref k1, .int 0])), (k1, .inl (b1, 8, .inl se))]) hP hD [4, 5] [0, 1, 2, 3] rfl rfl (by decide) (by decide) hk1 hFc hP1 hD1
  have hK := (hK.sub (tys' := [(ao, .long), (a1, .int), (a2, .int)]) [0, 1, 2] rfl).app hK1
  generalize H1 = H at hP hS ⊢
  have hP : va_P (dC, dI) vwCl [(ho, .inl (ao, 1, .inr (.inl ou))), (h0, .inr (0, [.int cp, .int cq, .long cs, .int cn, .int dp, .int dq, .int dg, .ref h1, .ref h2])), (h1, .inl (a1, 8, .inl se)), (h2, .inl (a2, 8, .inl pu)), (k0, .inr (1, [.int mp2, .int (nI (dk_q (dk_lg (xs (6 * t9 + 3)) (xs (6 * t9 + 4))))), .int ro2, .int hc, .long ms9, .int kp, .int kq, .int kn, .int dp, .int dq, .int dg, .ref k1, .int 0])), (k1, .inl (b1, 8, .inl se))] H := hP
  have hD : va_D (fun q : Nat => s.heap.size ≤ q) [(ho, .inl (ao, 1, .inr (.inl ou))), (h0, .inr (0, [.int cp, .int cq, .long cs, .int cn, .int dp, .int dq, .int dg, .ref h1, .ref h2])), (h1, .inl (a1, 8, .inl se)), (h2, .inl (a2, 8, .inl pu)), (k0, .inr (1, [.int mp2, .int (nI (dk_q (dk_lg (xs (6 * t9 + 3)) (xs (6 * t9 + 4))))), .int ro2, .int hc, .long ms9, .int kp, .int kq, .int kn, .int dp, .int dq, .int dg, .ref k1, .int 0])), (k1, .inl (b1, 8, .inl se))] := hD
  have hK : va_K (dC, dI) vwCl [(ao, .long), (a1, .int), (a2, .int), (b1, .int)] s := hK
  refine lv_icmp_eq (tgt := 1019) hx hb dL_law_339 (by decide) (fun c_339 => ?_) (fun c_339 => ?_)
  · exact kk _ _ cp cq cs cn dp dq dg se pu mp2 (nI (dk_q (dk_lg (xs (6 * t9 + 3)) (xs (6 * t9 + 4))))) ro2 hc ms9 kp kq kn 0 ou _ _ ls (by omega) (by omega) hR (hP.sub [0, 1, 2, 3, 4, 5] rfl) (hD.sub [0, 1, 2, 3, 4, 5] (by decide) rfl) hS (lv_sub hl [0, 1, 2, 3, 4] rfl)
  · exact absurd (show r_292 = r_336 by
      rcases hr_292 with ⟨q1, q2⟩ | ⟨q1, q2⟩ <;> rcases hr2 with ⟨w1, w2⟩ | ⟨w1, w2⟩
      · exact q1.trans w1.symm
      · exact absurd q2 w2
      · exact absurd w2 q2
      · exact q1.trans w1.symm) c_339
