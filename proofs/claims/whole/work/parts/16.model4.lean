set_option maxHeartbeats 4000000 in
set_option maxRecDepth 100000 in
theorem dk_m_sign (l : Launch) (dC : Nat → ClassId) (dI : Nat → Nat → Nat) (k0 k1 : Nat) (b1 : ClassId) (mp mq mo hc : Int32) (ms9 : Int64) (kp kq kn pp qq gg th : Int32) (sk : Nat → Int32) (x : Int32) (a : Int64) (k : Int32) (hI : dk_ID pp qq gg) (hIK : ∀ j, j < 8 → sk j = 0 ∨ (¬ pp = 0 ∧ dk_ex (sk j) qq)) (sz : Nat) : Met l yX1_sign wsX1_sign ({ frames := 2, cells := 0, slots := 0, locals := 46 }) (va_Pc [.ref k0, .int x, .long a, .int k] (fun U => U.heap.size = sz ∧ va_P (dC, dI) vwCl [(k0, .inr (1, [.int mp, .int mq, .int mo, .int hc, .long ms9, .int kp, .int kq, .int kn, .int pp, .int qq, .int gg, .ref k1, .int th])), (k1, .inl (b1, 8, .inl sk))] U.heap ∧ va_K (dC, dI) vwCl [(b1, .int)] U ∧ va_D (fun _ => True) [(k0, .inr (1, [.int mp, .int mq, .int mo, .int hc, .long ms9, .int kp, .int kq, .int kn, .int pp, .int qq, .int gg, .ref k1, .int th])), (k1, .inl (b1, 8, .inl sk))])) (va_Ql (fun (r9 : Int64) (u9 : dk_T) => ∃ th2 : Int32, dk_fsig pp qq gg sk x a k = (th2, r9) ∧ u9 = (mp, mq, mo, hc, ms9, kp, kq, kn, pp, qq, gg, th2, sk)) (dk_C dC dI (va_A [(k0, .inr (1, [.int mp, .int mq, .int mo, .int hc, .long ms9, .int kp, .int kq, .int kn, .int pp, .int qq, .int gg, .ref k1, .int th])), (k1, .inl (b1, 8, .inl sk))] sz) k0 k1 b1) (va_A [(k0, .inr (1, [.int mp, .int mq, .int mo, .int hc, .long ms9, .int kp, .int kq, .int kn, .int pp, .int qq, .int gg, .ref k1, .int th])), (k1, .inl (b1, 8, .inl sk))] sz)) 0 0 (va_A [(k0, .inr (1, [.int mp, .int mq, .int mo, .int hc, .long ms9, .int kp, .int kq, .int kn, .int pp, .int qq, .int gg, .ref k1, .int th])), (k1, .inl (b1, 8, .inl sk))] sz) := by
  refine Met.ofW (cc := cX1_sign) (maxL := 11) (ret := (some .long)) (by decide) rfl ?_
  intro p e s m args below meth c s₁ B hml hv
  obtain ⟨rfl, hsz, hP, hK, hD0⟩ := hv
  have hx := B.exec
  have hb := B.bytes
  have hr := B.returns
  have hts := atoms_spec (ws := wsX1_sign) B.pre
  have hown : s.vm.findClass RX1 = some m.cls := findClass_of_methodNamed B.named
  have hlocks := B.notSynchronized
  subst hsz
  have hD := hD0.self (sz := s.heap.size)
  generalize hAe : va_A [(k0, .inr (1, [.int mp, .int mq, .int mo, .int hc, .long ms9, .int kp, .int kq, .int kn, .int pp, .int qq, .int gg, .ref k1, .int th])), (k1, .inl (b1, 8, .inl sk))] s.heap.size = A at hD ⊢
  have hA : ∀ q : Nat, s.heap.size ≤ q → A q := fun q h => by rw [← hAe]; exact Or.inr h
  have hS : va_S A s.heap s.heap [] := va_S.rf
  have hl := lv_entry ([.ref k0, .int x, .long a, .int k]) (n := 11) (Nat.le_of_ble_eq_true rfl)
  rw [lg_entry_eq]
  generalize (lg_sl ([.ref k0, .int x, .long a, .int k]) ++ List.replicate (11 - (lg_sl ([.ref k0, .int x, .long a, .int k])).length) Slot.unset).toArray = ls at hl ⊢
  have hl : lv_has ls 11 [(0, .ref k0), (1, .int x), (2, .long a), (4, .int k)] := hl
  refine lv_aload_n hx hb dX1_sign_0 rfl (lv_at hl 0 rfl) ?_
  refine lv_aload_n hx hb dX1_sign_1 rfl (lv_at hl 0 rfl) ?_
  refine lv_iload_n hx hb dX1_sign_2 rfl (lv_at hl 1 rfl) ?_
  have hPc := hP.sub (ws' := [(k0, .inr (1, [.int mp, .int mq, .int mo, .int hc, .long ms9, .int kp, .int kq, .int kn, .int pp, .int qq, .int gg, .ref k1, .int th])), (k1, .inl (b1, 8, .inl sk))]) [0, 1] rfl
  have hKc := hK.sub (tys' := [(b1, .int)]) [0] rfl
  refine vp_callSi (W.runV (As := [.int x]) (rest := [.ref k0]) ⟨hx, hb, hml, hown, hts⟩ (dk_m_hasKey l dC dI k0 k1 b1 mp mq mo hc ms9 kp kq kn pp qq gg th sk x (fun j hj => (hIK j hj).imp id (fun q => q.2.1))) (cwV 1 hts gX1_sign_X1_hasKey rfl rfl rfl (by decide +kernel) ⟨Nat.le_of_ble_eq_true rfl, Nat.le_of_ble_eq_true rfl⟩) ⟨fun a U g mk q => by obtain ⟨q0, qP, qK⟩ := q; exact ⟨q0, qP, va_K.moved (u := U) (U := U.calling g mk a) (Vm.Alike.refl U.vm) qK⟩, va_recv hKc hPc (ci := 1) (q0 := 0) rfl rfl, fun U hU hW => ⟨rfl, by rw [hU]; exact hPc, va_K.moved hW.alike hKc⟩⟩ rfl rfl hl.1 rfl (lv_room (Nat.le_of_ble_eq_true rfl)) dX1_sign_3 ⟨Nat.le_of_ble_eq_true rfl, Nat.le_of_ble_eq_true rfl⟩) (fun r_3 hr_3 => ?_)
  subst hr_3
  refine lv_if_ne (tgt := 13) hx hb dX1_sign_6 (by decide) (fun c_6 => ?_) (fun c_6 => ?_)
  · have hhk : dk_hk sk x := by
      by_cases q : dk_hk sk x
      · exact q
      · exact absurd (if_neg q) c_6
    obtain ⟨j, hj, rfl⟩ := dk_sl_of.mp hhk.1
    have hse : ¬ sk j = 0 := (dk_hk_nI hj).mp hhk
    obtain ⟨hdp, hex0⟩ := (hIK j hj).resolve_left hse
    obtain ⟨P, Q9, G, hP9, hQ9, hdom, rfl, rfl, rfl⟩ := hI.resolve_left (fun q => hdp q.1)
    obtain ⟨hs1, hs2, hs3, hs4, hs5, hs6⟩ := dk_dom_sz hP9 hdom
    obtain ⟨x9, hx91, hx92, hx93⟩ := dk_ex_of hQ9 hex0
    refine lv_iload hx hb dX1_sign_13 (lv_at hl 3 rfl) ?_
    refine lv_iconst (v := 1) hx hb dX1_sign_15 (by decide) ?_
    refine lv_icmp_lt (tgt := 30) hx hb dX1_sign_16 (by decide) (fun c_16 => ?_) (fun c_16 => ?_)
    · have hnx : ¬ dk_ex k (nI Q9) := fun q => dk_not_lt.mpr q.1 c_16
      refine lv_iconst (v := 2) hx hb dX1_sign_30 (by decide) ?_
      refine lv_goto (tgt := 35) hx hb dX1_sign_31 (by decide) ?_
      refine va_put (D := (dC, dI)) (ci := 1) (v := .int 2) (ty := .int) (C := RX1) (T := TX1) (N := 13) hx hb hts (by decide +kernel) tyX1 tyX1_ok nmX1 hown hK hP hD hS 0 rfl rfl 12 (by decide) (hts (.fieldLink RX1 13 "DomainKeysModel" "thrown" "I") (by decide +kernel)) (fun _ h9 => h9) rfl (by decide +kernel) rfl rfl (Nat.le_of_ble_eq_true rfl) dX1_sign_35 (fun H locs hP hD hS => ?_)
      have hP : va_P (dC, dI) vwCl [(k0, .inr (1, [.int mp, .int mq, .int mo, .int hc, .long ms9, .int kp, .int kq, .int kn, .int (nI P), .int (nI Q9), .int (nI G), .ref k1, .int 2])), (k1, .inl (b1, 8, .inl sk))] H := hP
      have hD : va_D A [(k0, .inr (1, [.int mp, .int mq, .int mo, .int hc, .long ms9, .int kp, .int kq, .int kn, .int (nI P), .int (nI Q9), .int (nI G), .ref k1, .int 2])), (k1, .inl (b1, 8, .inl sk))] := hD
      refine lv_aload_n hx hb dX1_sign_38 rfl (lv_at hl 0 rfl) ?_
      refine va_get (D := (dC, dI)) (ci := 1) (v := .int 2) (C := RX1) (T := TX1) (N := 13) hx hb hts (by decide +kernel) hown hK hP 0 rfl rfl 12 (by decide) (hts (.fieldLink RX1 13 "DomainKeysModel" "thrown" "I") (by decide +kernel)) (fun _ h9 => h9) rfl dX1_sign_39 ?_
      refine lv_if_eq (tgt := 47) hx hb dX1_sign_42 (by decide) (fun c_42 => ?_) (fun c_42 => ?_)
      · exact absurd c_42 (by decide)
      · refine lv_lconst (v := 0) hx hb dX1_sign_45 (by decide) ?_
        exact W.lret (v := 0) hx hb hr (fun t ht hW => ⟨⟨0, (mp, mq, mo, hc, ms9, kp, kq, kn, nI P, nI Q9, nI G, 2, sk), rfl, ⟨2, by rw [dk_fsig, if_neg (fun q => q hhk), if_pos hnx], rfl⟩, by rw [ht]; exact hP, va_K.moved hW.alike hK, hD⟩, hS.F ht⟩) hS.2.2 dX1_sign_46
    · refine lv_iload hx hb dX1_sign_19 (lv_at hl 3 rfl) ?_
      refine lv_aload_n hx hb dX1_sign_21 rfl (lv_at hl 0 rfl) ?_
      refine va_get (D := (dC, dI)) (ci := 1) (v := .int (nI Q9)) (C := RX1) (T := TX1) (N := 13) hx hb hts (by decide +kernel) hown hK hP 0 rfl rfl 9 (by decide) (hts (.fieldLink RX1 76 "DomainKeysModel" "q" "I") (by decide +kernel)) (fun _ h9 => h9) rfl dX1_sign_22 ?_
      refine lv_iconst (v := 1) hx hb dX1_sign_25 (by decide) ?_
      refine lv_isub hx hb dX1_sign_26 ?_
      refine lv_icmp_le (tgt := 34) hx hb dX1_sign_27 (by decide) (fun c_27 => ?_) (fun c_27 => ?_)
      · have hex : dk_ex k (nI Q9) := ⟨dk_not_lt.mp c_16, (dk_lt1 (by omega) hQ9).mp c_27⟩
        obtain ⟨k9, hk91, hk92, rfl⟩ := dk_ex_of hQ9 hex
        obtain ⟨R9, hR9⟩ : ∃ R9 : Nat, R9 = G ^ k9 % P % Q9 := ⟨_, rfl⟩
        have hRlt : R9 < Q9 := by rw [hR9]; exact Nat.mod_lt _ (by omega)
        have hpw : G ^ k9 % P < P := Nat.mod_lt _ (by omega)
        have hxr : x9 * R9 ≤ 1073741824 * 1073741824 := Nat.mul_le_mul (by omega) (by omega)
        have hzl := dk_z_lt a
        obtain ⟨I9, hI9⟩ : ∃ I9 : Nat, I9 = k9 ^ (Q9 - 2) % Q9 := ⟨_, rfl⟩
        have hIlt : I9 < Q9 := by rw [hI9]; exact Nat.mod_lt _ (by omega)
        obtain ⟨S1, hS1⟩ : ∃ S1 : Nat, S1 = (dk_z a + x9 * R9) % Q9 := ⟨_, rfl⟩
        have hS1lt : S1 < Q9 := by rw [hS1]; exact Nat.mod_lt _ (by omega)
        have hsi : I9 * S1 ≤ 1073741824 * 1073741824 := Nat.mul_le_mul (by omega) (by omega)
        obtain ⟨S9, hS9⟩ : ∃ S9 : Nat, S9 = S1 * I9 % Q9 := ⟨_, rfl⟩
        have hS9lt : S9 < Q9 := by rw [hS9]; exact Nat.mod_lt _ (by omega)
        have hsr : dk_sr (nI P) (nI Q9) (nI G) (nI k9) = R9 := by rw [dk_sr, dk_n_nI (by omega), dk_n_nI (by omega), dk_n_nI hP9, dk_n_nI hQ9, ← hR9]
        have hss : dk_ss (nI P) (nI Q9) (nI G) (sk (dk_n (nI j))) (nI k9) a = S9 := by rw [dk_ss, hsr, dk_n_nI (show j < 2147483648 by omega), hx93, dk_n_nI (show x9 < 2147483648 by omega), dk_n_nI (show k9 < 2147483648 by omega), dk_n_nI hQ9, ← hS1, ← hI9, ← hS9]
        refine lv_iconst (v := 0) hx hb dX1_sign_34 (by decide) ?_
        refine va_put (D := (dC, dI)) (ci := 1) (v := .int 0) (ty := .int) (C := RX1) (T := TX1) (N := 13) hx hb hts (by decide +kernel) tyX1 tyX1_ok nmX1 hown hK hP hD hS 0 rfl rfl 12 (by decide) (hts (.fieldLink RX1 13 "DomainKeysModel" "thrown" "I") (by decide +kernel)) (fun _ h9 => h9) rfl (by decide +kernel) rfl rfl (Nat.le_of_ble_eq_true rfl) dX1_sign_35 (fun H locs hP hD hS => ?_)
        have hP : va_P (dC, dI) vwCl [(k0, .inr (1, [.int mp, .int mq, .int mo, .int hc, .long ms9, .int kp, .int kq, .int kn, .int (nI P), .int (nI Q9), .int (nI G), .ref k1, .int 0])), (k1, .inl (b1, 8, .inl sk))] H := hP
        have hD : va_D A [(k0, .inr (1, [.int mp, .int mq, .int mo, .int hc, .long ms9, .int kp, .int kq, .int kn, .int (nI P), .int (nI Q9), .int (nI G), .ref k1, .int 0])), (k1, .inl (b1, 8, .inl sk))] := hD
        refine lv_aload_n hx hb dX1_sign_38 rfl (lv_at hl 0 rfl) ?_
        refine va_get (D := (dC, dI)) (ci := 1) (v := .int 0) (C := RX1) (T := TX1) (N := 13) hx hb hts (by decide +kernel) hown hK hP 0 rfl rfl 12 (by decide) (hts (.fieldLink RX1 13 "DomainKeysModel" "thrown" "I") (by decide +kernel)) (fun _ h9 => h9) rfl dX1_sign_39 ?_
        refine lv_if_eq (tgt := 47) hx hb dX1_sign_42 (by decide) (fun c_42 => ?_) (fun c_42 => ?_)
        · refine lv_aload_n hx hb dX1_sign_47 rfl (lv_at hl 0 rfl) ?_
          refine va_get (D := (dC, dI)) (ci := 1) (v := .int (nI G)) (C := RX1) (T := TX1) (N := 13) hx hb hts (by decide +kernel) hown hK hP 0 rfl rfl 10 (by decide) (hts (.fieldLink RX1 79 "DomainKeysModel" "g" "I") (by decide +kernel)) (fun _ h9 => h9) rfl dX1_sign_48 ?_
          refine lv_i2l hx hb dX1_sign_51 rfl ?_
          refine lv_topl (fun v_51 ev_51 => ?_)
          have ev_51 : v_51 = lN G := ev_51.trans (nI_l (by omega))
          subst ev_51
          refine lv_iload hx hb dX1_sign_52 (lv_at hl 3 rfl) ?_
          refine lv_i2l hx hb dX1_sign_54 rfl ?_
          refine lv_topl (fun v_54 ev_54 => ?_)
          have ev_54 : v_54 = lN k9 := ev_54.trans (nI_l (by omega))
          subst ev_54
          refine lv_aload_n hx hb dX1_sign_55 rfl (lv_at hl 0 rfl) ?_
          refine va_get (D := (dC, dI)) (ci := 1) (v := .int (nI P)) (C := RX1) (T := TX1) (N := 13) hx hb hts (by decide +kernel) hown hK hP 0 rfl rfl 8 (by decide) (hts (.fieldLink RX1 73 "DomainKeysModel" "p" "I") (by decide +kernel)) (fun _ h9 => h9) rfl dX1_sign_56 ?_
          refine lv_i2l hx hb dX1_sign_59 rfl ?_
          refine lv_topl (fun v_59 ev_59 => ?_)
          have ev_59 : v_59 = lN P := ev_59.trans (nI_l hP9)
          subst ev_59
          refine vp_callSl (W.runS (As := [.long (lN G), .long (lN k9), .long (lN P)]) (rest := []) ⟨hx, hb, hml, hown, hts⟩ (dk_m_power l G k9 P (by omega) (by omega) (by omega) hP9) (va_cwS 3 hts gX1_sign_X1_power rfl rfl rfl (by decide +kernel) ⟨Nat.le_of_ble_eq_true rfl, Nat.le_of_ble_eq_true rfl⟩) ⟨fun _ _ _ _ q9 => q9, fun U hU hW => ⟨rfl, trivial⟩⟩ rfl rfl hl.1 rfl (lv_room (Nat.le_of_ble_eq_true rfl)) dX1_sign_60 ⟨Nat.le_of_ble_eq_true rfl, Nat.le_of_ble_eq_true rfl⟩) (fun r_60 hr_60 => ?_)
          subst hr_60
          refine lv_aload_n hx hb dX1_sign_63 rfl (lv_at hl 0 rfl) ?_
          refine va_get (D := (dC, dI)) (ci := 1) (v := .int (nI Q9)) (C := RX1) (T := TX1) (N := 13) hx hb hts (by decide +kernel) hown hK hP 0 rfl rfl 9 (by decide) (hts (.fieldLink RX1 76 "DomainKeysModel" "q" "I") (by decide +kernel)) (fun _ h9 => h9) rfl dX1_sign_64 ?_
          refine lv_i2l hx hb dX1_sign_67 rfl ?_
          refine lv_topl (fun v_67 ev_67 => ?_)
          have ev_67 : v_67 = lN Q9 := ev_67.trans (nI_l hQ9)
          subst ev_67
          refine lv_lrem hx hb dX1_sign_68 (dk_lne (by omega) (by omega)) ?_
          refine lv_topl (fun v_68 ev_68 => ?_)
          have ev_68 : v_68 = lN R9 := ev_68.trans ((pk_lRem (by omega) (by omega) (by omega)).trans (by rw [hR9]))
          subst ev_68
          refine lv_lstore (lv' := [(5, .long (lN R9)), (0, .ref k0), (1, .int (nI j)), (2, .long a), (4, .int (nI k9))]) hx hb dX1_sign_69 hl (by decide) rfl (fun ls hl => ?_)
          refine lv_lload_n hx hb dX1_sign_71 rfl (lv_at hl 3 rfl) ?_
          refine vp_callSl (W.runS (As := [.long a]) (rest := []) ⟨hx, hb, hml, hown, hts⟩ (dk_m_digestOf l a) (va_cwS 1 hts gX1_sign_X1_digestOf rfl rfl rfl (by decide +kernel) ⟨Nat.le_of_ble_eq_true rfl, Nat.le_of_ble_eq_true rfl⟩) ⟨fun _ _ _ _ q9 => q9, fun U hU hW => ⟨rfl, trivial⟩⟩ rfl rfl hl.1 rfl (lv_room (Nat.le_of_ble_eq_true rfl)) dX1_sign_72 ⟨Nat.le_of_ble_eq_true rfl, Nat.le_of_ble_eq_true rfl⟩) (fun r_72 hr_72 => ?_)
          subst hr_72
          refine lv_aload_n hx hb dX1_sign_75 rfl (lv_at hl 1 rfl) ?_
          refine va_get (D := (dC, dI)) (ci := 1) (v := .ref k1) (C := RX1) (T := TX1) (N := 13) hx hb hts (by decide +kernel) hown hK hP 0 rfl rfl 11 (by decide) (hts (.fieldLink RX1 7 "DomainKeysModel" "secrets" "[I") (by decide +kernel)) (fun _ h9 => h9) rfl dX1_sign_76 ?_
          refine lv_iload_n hx hb dX1_sign_79 rfl (lv_at hl 2 rfl) ?_
          refine va_iald hx hb hK hP 1 0 rfl rfl (vp_in_nI hj (by decide)) dX1_sign_80 ?_
          refine lv_topi (fun v_80 ev_80 => ?_)
          have ev_80 : v_80 = sk j := ev_80.trans (congrArg sk (nI_clamp (Nat.lt_trans hj (by decide))))
          subst ev_80
          refine lv_topi (fun v_80 ev_80 => ?_)
          have ev_80 : v_80 = nI x9 := ev_80.trans hx93
          subst ev_80
          refine lv_i2l hx hb dX1_sign_81 rfl ?_
          refine lv_topl (fun v_81 ev_81 => ?_)
          have ev_81 : v_81 = lN x9 := ev_81.trans (nI_l (by omega))
          subst ev_81
          refine lv_lload hx hb dX1_sign_82 (lv_at hl 0 rfl) ?_
          refine lv_lmul hx hb dX1_sign_84 ?_
          refine lv_topl (fun v_84 ev_84 => ?_)
          have ev_84 : v_84 = lN (x9 * R9) := ev_84.trans (lN_mul _ _)
          subst ev_84
          refine lv_ladd hx hb dX1_sign_85 ?_
          refine lv_topl (fun v_85 ev_85 => ?_)
          have ev_85 : v_85 = lN (dk_z a + x9 * R9) := ev_85.trans (lN_add _ _)
          subst ev_85
          refine lv_aload_n hx hb dX1_sign_86 rfl (lv_at hl 1 rfl) ?_
          refine va_get (D := (dC, dI)) (ci := 1) (v := .int (nI Q9)) (C := RX1) (T := TX1) (N := 13) hx hb hts (by decide +kernel) hown hK hP 0 rfl rfl 9 (by decide) (hts (.fieldLink RX1 76 "DomainKeysModel" "q" "I") (by decide +kernel)) (fun _ h9 => h9) rfl dX1_sign_87 ?_
          refine lv_i2l hx hb dX1_sign_90 rfl ?_
          refine lv_topl (fun v_90 ev_90 => ?_)
          have ev_90 : v_90 = lN Q9 := ev_90.trans (nI_l hQ9)
          subst ev_90
          refine lv_lrem hx hb dX1_sign_91 (dk_lne (by omega) (by omega)) ?_
          refine lv_topl (fun v_91 ev_91 => ?_)
          have ev_91 : v_91 = lN S1 := ev_91.trans ((pk_lRem (by omega) (by omega) (by omega)).trans (by rw [hS1]))
          subst ev_91
          refine lv_lstore (lv' := [(7, .long (lN S1)), (5, .long (lN R9)), (0, .ref k0), (1, .int (nI j)), (2, .long a), (4, .int (nI k9))]) hx hb dX1_sign_92 hl (by decide) rfl (fun ls hl => ?_)
          refine lv_iload hx hb dX1_sign_94 (lv_at hl 5 rfl) ?_
          refine lv_i2l hx hb dX1_sign_96 rfl ?_
          refine lv_topl (fun v_96 ev_96 => ?_)
          have ev_96 : v_96 = lN k9 := ev_96.trans (nI_l (by omega))
          subst ev_96
          refine lv_aload_n hx hb dX1_sign_97 rfl (lv_at hl 2 rfl) ?_
          refine va_get (D := (dC, dI)) (ci := 1) (v := .int (nI Q9)) (C := RX1) (T := TX1) (N := 13) hx hb hts (by decide +kernel) hown hK hP 0 rfl rfl 9 (by decide) (hts (.fieldLink RX1 76 "DomainKeysModel" "q" "I") (by decide +kernel)) (fun _ h9 => h9) rfl dX1_sign_98 ?_
          refine lv_iconst (v := 2) hx hb dX1_sign_101 (by decide) ?_
          refine lv_isub hx hb dX1_sign_102 ?_
          refine lv_topi (fun v_102 ev_102 => ?_)
          have ev_102 : v_102 = nI (Q9 - 2) := ev_102.trans (pk_sub (b := 2) (by omega))
          subst ev_102
          refine lv_i2l hx hb dX1_sign_103 rfl ?_
          refine lv_topl (fun v_103 ev_103 => ?_)
          have ev_103 : v_103 = lN (Q9 - 2) := ev_103.trans (nI_l (by omega))
          subst ev_103
          refine lv_aload_n hx hb dX1_sign_104 rfl (lv_at hl 2 rfl) ?_
          refine va_get (D := (dC, dI)) (ci := 1) (v := .int (nI Q9)) (C := RX1) (T := TX1) (N := 13) hx hb hts (by decide +kernel) hown hK hP 0 rfl rfl 9 (by decide) (hts (.fieldLink RX1 76 "DomainKeysModel" "q" "I") (by decide +kernel)) (fun _ h9 => h9) rfl dX1_sign_105 ?_
          refine lv_i2l hx hb dX1_sign_108 rfl ?_
          refine lv_topl (fun v_108 ev_108 => ?_)
          have ev_108 : v_108 = lN Q9 := ev_108.trans (nI_l hQ9)
          subst ev_108
          refine vp_callSl (W.runS (As := [.long (lN k9), .long (lN (Q9 - 2)), .long (lN Q9)]) (rest := []) ⟨hx, hb, hml, hown, hts⟩ (dk_m_power l k9 (Q9 - 2) Q9 (by omega) (by omega) (by omega) hQ9) (va_cwS 3 hts gX1_sign_X1_power rfl rfl rfl (by decide +kernel) ⟨Nat.le_of_ble_eq_true rfl, Nat.le_of_ble_eq_true rfl⟩) ⟨fun _ _ _ _ q9 => q9, fun U hU hW => ⟨rfl, trivial⟩⟩ rfl rfl hl.1 rfl (lv_room (Nat.le_of_ble_eq_true rfl)) dX1_sign_109 ⟨Nat.le_of_ble_eq_true rfl, Nat.le_of_ble_eq_true rfl⟩) (fun r_109 hr_109 => ?_)
          subst hr_109
          refine lv_topl (fun v_109 ev_109 => ?_)
          have ev_109 : v_109 = lN I9 := ev_109.trans (by rw [hI9])
          subst ev_109
          refine lv_lload hx hb dX1_sign_112 (lv_at hl 0 rfl) ?_
          refine lv_lmul hx hb dX1_sign_114 ?_
          refine lv_topl (fun v_114 ev_114 => ?_)
          have ev_114 : v_114 = lN (I9 * S1) := ev_114.trans (lN_mul _ _)
          subst ev_114
          refine lv_aload_n hx hb dX1_sign_115 rfl (lv_at hl 2 rfl) ?_
          refine va_get (D := (dC, dI)) (ci := 1) (v := .int (nI Q9)) (C := RX1) (T := TX1) (N := 13) hx hb hts (by decide +kernel) hown hK hP 0 rfl rfl 9 (by decide) (hts (.fieldLink RX1 76 "DomainKeysModel" "q" "I") (by decide +kernel)) (fun _ h9 => h9) rfl dX1_sign_116 ?_
          refine lv_i2l hx hb dX1_sign_119 rfl ?_
          refine lv_topl (fun v_119 ev_119 => ?_)
          have ev_119 : v_119 = lN Q9 := ev_119.trans (nI_l hQ9)
          subst ev_119
          refine lv_lrem hx hb dX1_sign_120 (dk_lne (by omega) (by omega)) ?_
          refine lv_topl (fun v_120 ev_120 => ?_)
          have ev_120 : v_120 = lN S9 := ev_120.trans ((pk_lRem (by omega) (by omega) (by omega)).trans (by rw [hS9, Nat.mul_comm]))
          subst ev_120
          refine lv_lstore (lv' := [(9, .long (lN S9)), (7, .long (lN S1)), (5, .long (lN R9)), (0, .ref k0), (1, .int (nI j)), (2, .long a), (4, .int (nI k9))]) hx hb dX1_sign_121 hl (by decide) rfl (fun ls hl => ?_)
          refine lv_aload_n hx hb dX1_sign_123 rfl (lv_at hl 3 rfl) ?_
          refine lv_lload hx hb dX1_sign_124 (lv_at hl 2 rfl) ?_
          refine lv_lconst (v := 0) hx hb dX1_sign_126 (by decide) ?_
          refine W.lcmp hx hb dX1_sign_127 ?_
          refine lv_if_eq (tgt := 138) hx hb dX1_sign_128 (by decide) (fun c_128 => ?_) (fun c_128 => ?_)
          · have hzz : dk_sr (nI P) (nI Q9) (nI G) (nI k9) = 0 ∨ dk_ss (nI P) (nI Q9) (nI G) (sk (dk_n (nI j))) (nI k9) a = 0 := by
              left
              rw [hsr]
              exact (pk_lEQ (b := 0) (by omega) (by omega)).mp ((lg_cmp_eq _ _).mp c_128)
            refine lv_iconst (v := 3) hx hb dX1_sign_138 (by decide) ?_
            refine lv_goto (tgt := 143) hx hb dX1_sign_139 (by decide) ?_
            refine va_put (D := (dC, dI)) (ci := 1) (v := .int 3) (ty := .int) (C := RX1) (T := TX1) (N := 13) hx hb hts (by decide +kernel) tyX1 tyX1_ok nmX1 hown hK hP hD hS 0 rfl rfl 12 (by decide) (hts (.fieldLink RX1 13 "DomainKeysModel" "thrown" "I") (by decide +kernel)) (fun _ h9 => h9) rfl (by decide +kernel) rfl rfl (Nat.le_of_ble_eq_true rfl) dX1_sign_143 (fun H locs hP hD hS => ?_)
            have hP : va_P (dC, dI) vwCl [(k0, .inr (1, [.int mp, .int mq, .int mo, .int hc, .long ms9, .int kp, .int kq, .int kn, .int (nI P), .int (nI Q9), .int (nI G), .ref k1, .int 3])), (k1, .inl (b1, 8, .inl sk))] H := hP
            have hD : va_D A [(k0, .inr (1, [.int mp, .int mq, .int mo, .int hc, .long ms9, .int kp, .int kq, .int kn, .int (nI P), .int (nI Q9), .int (nI G), .ref k1, .int 3])), (k1, .inl (b1, 8, .inl sk))] := hD
            refine lv_aload_n hx hb dX1_sign_146 rfl (lv_at hl 3 rfl) ?_
            refine va_get (D := (dC, dI)) (ci := 1) (v := .int 3) (C := RX1) (T := TX1) (N := 13) hx hb hts (by decide +kernel) hown hK hP 0 rfl rfl 12 (by decide) (hts (.fieldLink RX1 13 "DomainKeysModel" "thrown" "I") (by decide +kernel)) (fun _ h9 => h9) rfl dX1_sign_147 ?_
            refine lv_if_ne (tgt := 165) hx hb dX1_sign_150 (by decide) (fun c_150 => ?_) (fun c_150 => ?_)
            · refine lv_lconst (v := 0) hx hb dX1_sign_165 (by decide) ?_
              exact W.lret (v := 0) hx hb hr (fun t ht hW => ⟨⟨0, (mp, mq, mo, hc, ms9, kp, kq, kn, nI P, nI Q9, nI G, 3, sk), rfl, ⟨3, by rw [dk_fsig, if_neg (fun q => q hhk), if_neg (fun q => q hex), if_pos hzz], rfl⟩, by rw [ht]; exact hP, va_K.moved hW.alike hK, hD⟩, hS.F ht⟩) hS.2.2 dX1_sign_166
            · exact absurd c_150 (by decide)
          · have hr0 : ¬ R9 = 0 := fun q => c_128 ((lg_cmp_eq _ _).mpr (by rw [q]; rfl))
            refine lv_lload hx hb dX1_sign_131 (lv_at hl 0 rfl) ?_
            refine lv_lconst (v := 0) hx hb dX1_sign_133 (by decide) ?_
            refine W.lcmp hx hb dX1_sign_134 ?_
            refine lv_if_ne (tgt := 142) hx hb dX1_sign_135 (by decide) (fun c_135 => ?_) (fun c_135 => ?_)
            · have hs0 : ¬ S9 = 0 := fun q => c_135 ((lg_cmp_eq _ _).mpr (by rw [q]; rfl))
              refine lv_iconst (v := 0) hx hb dX1_sign_142 (by decide) ?_
              refine va_put (D := (dC, dI)) (ci := 1) (v := .int 0) (ty := .int) (C := RX1) (T := TX1) (N := 13) hx hb hts (by decide +kernel) tyX1 tyX1_ok nmX1 hown hK hP hD hS 0 rfl rfl 12 (by decide) (hts (.fieldLink RX1 13 "DomainKeysModel" "thrown" "I") (by decide +kernel)) (fun _ h9 => h9) rfl (by decide +kernel) rfl rfl (Nat.le_of_ble_eq_true rfl) dX1_sign_143 (fun H locs hP hD hS => ?_)
              have hP : va_P (dC, dI) vwCl [(k0, .inr (1, [.int mp, .int mq, .int mo, .int hc, .long ms9, .int kp, .int kq, .int kn, .int (nI P), .int (nI Q9), .int (nI G), .ref k1, .int 0])), (k1, .inl (b1, 8, .inl sk))] H := hP
              have hD : va_D A [(k0, .inr (1, [.int mp, .int mq, .int mo, .int hc, .long ms9, .int kp, .int kq, .int kn, .int (nI P), .int (nI Q9), .int (nI G), .ref k1, .int 0])), (k1, .inl (b1, 8, .inl sk))] := hD
              refine lv_aload_n hx hb dX1_sign_146 rfl (lv_at hl 3 rfl) ?_
              refine va_get (D := (dC, dI)) (ci := 1) (v := .int 0) (C := RX1) (T := TX1) (N := 13) hx hb hts (by decide +kernel) hown hK hP 0 rfl rfl 12 (by decide) (hts (.fieldLink RX1 13 "DomainKeysModel" "thrown" "I") (by decide +kernel)) (fun _ h9 => h9) rfl dX1_sign_147 ?_
              refine lv_if_ne (tgt := 165) hx hb dX1_sign_150 (by decide) (fun c_150 => ?_) (fun c_150 => ?_)
              · exact absurd rfl c_150
              · refine lv_lload hx hb dX1_sign_153 (lv_at hl 2 rfl) ?_
                refine lv_ldc2 (v := 4294967296) hx hb hown (hts (.constantLong RX1 89 4294967296) (by decide +kernel)) dX1_sign_155 ?_
                refine lv_lmul hx hb dX1_sign_158 ?_
                refine lv_topl (fun v_158 ev_158 => ?_)
                have ev_158 : v_158 = lN (R9 * 4294967296) := ev_158.trans (lN_mul _ 4294967296)
                subst ev_158
                refine lv_lload hx hb dX1_sign_159 (lv_at hl 0 rfl) ?_
                refine lv_ladd hx hb dX1_sign_161 ?_
                refine lv_topl (fun v_161 ev_161 => ?_)
                have ev_161 : v_161 = lN (R9 * 4294967296 + S9) := ev_161.trans (lN_add _ _)
                subst ev_161
                refine lv_goto (tgt := 166) hx hb dX1_sign_162 (by decide) ?_
                exact W.lret (v := (lN (R9 * 4294967296 + S9))) hx hb hr (fun t ht hW => ⟨⟨lN (R9 * 4294967296 + S9), (mp, mq, mo, hc, ms9, kp, kq, kn, nI P, nI Q9, nI G, 0, sk), rfl, ⟨0, by rw [dk_fsig, if_neg (fun q => q hhk), if_neg (fun q => q hex), hsr, hss, if_neg (fun q => q.elim hr0 hs0)], rfl⟩, by rw [ht]; exact hP, va_K.moved hW.alike hK, hD⟩, hS.F ht⟩) hS.2.2 dX1_sign_166
            · have hzz : dk_sr (nI P) (nI Q9) (nI G) (nI k9) = 0 ∨ dk_ss (nI P) (nI Q9) (nI G) (sk (dk_n (nI j))) (nI k9) a = 0 := by
                right
                rw [hss]
                exact (pk_lEQ (b := 0) (by omega) (by omega)).mp ((lg_cmp_eq _ _).mp c_135)
              refine lv_iconst (v := 3) hx hb dX1_sign_138 (by decide) ?_
              refine lv_goto (tgt := 143) hx hb dX1_sign_139 (by decide) ?_
              refine va_put (D := (dC, dI)) (ci := 1) (v := .int 3) (ty := .int) (C := RX1) (T := TX1) (N := 13) hx hb hts (by decide +kernel) tyX1 tyX1_ok nmX1 hown hK hP hD hS 0 rfl rfl 12 (by decide) (hts (.fieldLink RX1 13 "DomainKeysModel" "thrown" "I") (by decide +kernel)) (fun _ h9 => h9) rfl (by decide +kernel) rfl rfl (Nat.le_of_ble_eq_true rfl) dX1_sign_143 (fun H locs hP hD hS => ?_)
              have hP : va_P (dC, dI) vwCl [(k0, .inr (1, [.int mp, .int mq, .int mo, .int hc, .long ms9, .int kp, .int kq, .int kn, .int (nI P), .int (nI Q9), .int (nI G), .ref k1, .int 3])), (k1, .inl (b1, 8, .inl sk))] H := hP
              have hD : va_D A [(k0, .inr (1, [.int mp, .int mq, .int mo, .int hc, .long ms9, .int kp, .int kq, .int kn, .int (nI P), .int (nI Q9), .int (nI G), .ref k1, .int 3])), (k1, .inl (b1, 8, .inl sk))] := hD
              refine lv_aload_n hx hb dX1_sign_146 rfl (lv_at hl 3 rfl) ?_
              refine va_get (D := (dC, dI)) (ci := 1) (v := .int 3) (C := RX1) (T := TX1) (N := 13) hx hb hts (by decide +kernel) hown hK hP 0 rfl rfl 12 (by decide) (hts (.fieldLink RX1 13 "DomainKeysModel" "thrown" "I") (by decide +kernel)) (fun _ h9 => h9) rfl dX1_sign_147 ?_
              refine lv_if_ne (tgt := 165) hx hb dX1_sign_150 (by decide) (fun c_150 => ?_) (fun c_150 => ?_)
              · refine lv_lconst (v := 0) hx hb dX1_sign_165 (by decide) ?_
                exact W.lret (v := 0) hx hb hr (fun t ht hW => ⟨⟨0, (mp, mq, mo, hc, ms9, kp, kq, kn, nI P, nI Q9, nI G, 3, sk), rfl, ⟨3, by rw [dk_fsig, if_neg (fun q => q hhk), if_neg (fun q => q hex), if_pos hzz], rfl⟩, by rw [ht]; exact hP, va_K.moved hW.alike hK, hD⟩, hS.F ht⟩) hS.2.2 dX1_sign_166
              · exact absurd c_150 (by decide)
        · exact absurd rfl c_42
      · have hnx : ¬ dk_ex k (nI Q9) := fun q => c_27 ((dk_lt1 (by omega) hQ9).mpr q.2)
        refine lv_iconst (v := 2) hx hb dX1_sign_30 (by decide) ?_
        refine lv_goto (tgt := 35) hx hb dX1_sign_31 (by decide) ?_
        refine va_put (D := (dC, dI)) (ci := 1) (v := .int 2) (ty := .int) (C := RX1) (T := TX1) (N := 13) hx hb hts (by decide +kernel) tyX1 tyX1_ok nmX1 hown hK hP hD hS 0 rfl rfl 12 (by decide) (hts (.fieldLink RX1 13 "DomainKeysModel" "thrown" "I") (by decide +kernel)) (fun _ h9 => h9) rfl (by decide +kernel) rfl rfl (Nat.le_of_ble_eq_true rfl) dX1_sign_35 (fun H locs hP hD hS => ?_)
        have hP : va_P (dC, dI) vwCl [(k0, .inr (1, [.int mp, .int mq, .int mo, .int hc, .long ms9, .int kp, .int kq, .int kn, .int (nI P), .int (nI Q9), .int (nI G), .ref k1, .int 2])), (k1, .inl (b1, 8, .inl sk))] H := hP
        have hD : va_D A [(k0, .inr (1, [.int mp, .int mq, .int mo, .int hc, .long ms9, .int kp, .int kq, .int kn, .int (nI P), .int (nI Q9), .int (nI G), .ref k1, .int 2])), (k1, .inl (b1, 8, .inl sk))] := hD
        refine lv_aload_n hx hb dX1_sign_38 rfl (lv_at hl 0 rfl) ?_
        refine va_get (D := (dC, dI)) (ci := 1) (v := .int 2) (C := RX1) (T := TX1) (N := 13) hx hb hts (by decide +kernel) hown hK hP 0 rfl rfl 12 (by decide) (hts (.fieldLink RX1 13 "DomainKeysModel" "thrown" "I") (by decide +kernel)) (fun _ h9 => h9) rfl dX1_sign_39 ?_
        refine lv_if_eq (tgt := 47) hx hb dX1_sign_42 (by decide) (fun c_42 => ?_) (fun c_42 => ?_)
        · exact absurd c_42 (by decide)
        · refine lv_lconst (v := 0) hx hb dX1_sign_45 (by decide) ?_
          exact W.lret (v := 0) hx hb hr (fun t ht hW => ⟨⟨0, (mp, mq, mo, hc, ms9, kp, kq, kn, nI P, nI Q9, nI G, 2, sk), rfl, ⟨2, by rw [dk_fsig, if_neg (fun q => q hhk), if_pos hnx], rfl⟩, by rw [ht]; exact hP, va_K.moved hW.alike hK, hD⟩, hS.F ht⟩) hS.2.2 dX1_sign_46
  · have hnk : ¬ dk_hk sk x := fun q => by
      rw [if_pos q] at c_6
      exact absurd c_6 (by decide)
    refine lv_iconst (v := 1) hx hb dX1_sign_9 (by decide) ?_
    refine lv_goto (tgt := 35) hx hb dX1_sign_10 (by decide) ?_
    refine va_put (D := (dC, dI)) (ci := 1) (v := .int 1) (ty := .int) (C := RX1) (T := TX1) (N := 13) hx hb hts (by decide +kernel) tyX1 tyX1_ok nmX1 hown hK hP hD hS 0 rfl rfl 12 (by decide) (hts (.fieldLink RX1 13 "DomainKeysModel" "thrown" "I") (by decide +kernel)) (fun _ h9 => h9) rfl (by decide +kernel) rfl rfl (Nat.le_of_ble_eq_true rfl) dX1_sign_35 (fun H locs hP hD hS => ?_)
    have hP : va_P (dC, dI) vwCl [(k0, .inr (1, [.int mp, .int mq, .int mo, .int hc, .long ms9, .int kp, .int kq, .int kn, .int pp, .int qq, .int gg, .ref k1, .int 1])), (k1, .inl (b1, 8, .inl sk))] H := hP
    have hD : va_D A [(k0, .inr (1, [.int mp, .int mq, .int mo, .int hc, .long ms9, .int kp, .int kq, .int kn, .int pp, .int qq, .int gg, .ref k1, .int 1])), (k1, .inl (b1, 8, .inl sk))] := hD
    refine lv_aload_n hx hb dX1_sign_38 rfl (lv_at hl 0 rfl) ?_
    refine va_get (D := (dC, dI)) (ci := 1) (v := .int 1) (C := RX1) (T := TX1) (N := 13) hx hb hts (by decide +kernel) hown hK hP 0 rfl rfl 12 (by decide) (hts (.fieldLink RX1 13 "DomainKeysModel" "thrown" "I") (by decide +kernel)) (fun _ h9 => h9) rfl dX1_sign_39 ?_
    refine lv_if_eq (tgt := 47) hx hb dX1_sign_42 (by decide) (fun c_42 => ?_) (fun c_42 => ?_)
    · exact absurd c_42 (by decide)
    · refine lv_lconst (v := 0) hx hb dX1_sign_45 (by decide) ?_
      exact W.lret (v := 0) hx hb hr (fun t ht hW => ⟨⟨0, (mp, mq, mo, hc, ms9, kp, kq, kn, pp, qq, gg, 1, sk), rfl, ⟨1, by rw [dk_fsig, if_pos hnk], rfl⟩, by rw [ht]; exact hP, va_K.moved hW.alike hK, hD⟩, hS.F ht⟩) hS.2.2 dX1_sign_46

set_option maxHeartbeats 4000000 in
set_option maxRecDepth 100000 in
theorem dk_m_verify (l : Launch) (dC : Nat → ClassId) (dI : Nat → Nat → Nat) (k0 k1 : Nat) (b1 : ClassId) (mp mq mo hc : Int32) (ms9 : Int64) (kp kq kn pp qq gg th : Int32) (sk : Nat → Int32) (y : Int32) (a : Int64) (r k : Int32) (hI : dk_ID pp qq gg) (sz : Nat) : Met l yX1_verify wsX1_verify ({ frames := 2, cells := 0, slots := 0, locals := 46 }) (va_Pc [.ref k0, .int y, .long a, .int r, .int k] (fun U => U.heap.size = sz ∧ va_P (dC, dI) vwCl [(k0, .inr (1, [.int mp, .int mq, .int mo, .int hc, .long ms9, .int kp, .int kq, .int kn, .int pp, .int qq, .int gg, .ref k1, .int th])), (k1, .inl (b1, 8, .inl sk))] U.heap ∧ va_K (dC, dI) vwCl [(b1, .int)] U ∧ va_D (fun _ => True) [(k0, .inr (1, [.int mp, .int mq, .int mo, .int hc, .long ms9, .int kp, .int kq, .int kn, .int pp, .int qq, .int gg, .ref k1, .int th])), (k1, .inl (b1, 8, .inl sk))])) (va_Qi (fun (r9 : Int32) (u9 : dk_T) => ∃ th2 : Int32, dk_fver pp qq gg y a r k = (th2, r9) ∧ u9 = (mp, mq, mo, hc, ms9, kp, kq, kn, pp, qq, gg, th2, sk)) (dk_C dC dI (va_A [(k0, .inr (1, [.int mp, .int mq, .int mo, .int hc, .long ms9, .int kp, .int kq, .int kn, .int pp, .int qq, .int gg, .ref k1, .int th])), (k1, .inl (b1, 8, .inl sk))] sz) k0 k1 b1) (va_A [(k0, .inr (1, [.int mp, .int mq, .int mo, .int hc, .long ms9, .int kp, .int kq, .int kn, .int pp, .int qq, .int gg, .ref k1, .int th])), (k1, .inl (b1, 8, .inl sk))] sz)) 0 0 (va_A [(k0, .inr (1, [.int mp, .int mq, .int mo, .int hc, .long ms9, .int kp, .int kq, .int kn, .int pp, .int qq, .int gg, .ref k1, .int th])), (k1, .inl (b1, 8, .inl sk))] sz) := by
  refine Met.ofW (cc := cX1_verify) (maxL := 14) (ret := (some .boolean)) (by decide) rfl ?_
  intro p e s m args below meth c s₁ B hml hv
  obtain ⟨rfl, hsz, hP, hK, hD0⟩ := hv
  have hx := B.exec
  have hb := B.bytes
  have hr := B.returns
  have hts := atoms_spec (ws := wsX1_verify) B.pre
  have hown : s.vm.findClass RX1 = some m.cls := findClass_of_methodNamed B.named
  have hlocks := B.notSynchronized
  subst hsz
  have hD := hD0.self (sz := s.heap.size)
  generalize hAe : va_A [(k0, .inr (1, [.int mp, .int mq, .int mo, .int hc, .long ms9, .int kp, .int kq, .int kn, .int pp, .int qq, .int gg, .ref k1, .int th])), (k1, .inl (b1, 8, .inl sk))] s.heap.size = A at hD ⊢
  have hA : ∀ q : Nat, s.heap.size ≤ q → A q := fun q h => by rw [← hAe]; exact Or.inr h
  have hS : va_S A s.heap s.heap [] := va_S.rf
  have hl := lv_entry ([.ref k0, .int y, .long a, .int r, .int k]) (n := 14) (Nat.le_of_ble_eq_true rfl)
  rw [lg_entry_eq]
  generalize (lg_sl ([.ref k0, .int y, .long a, .int r, .int k]) ++ List.replicate (14 - (lg_sl ([.ref k0, .int y, .long a, .int r, .int k])).length) Slot.unset).toArray = ls at hl ⊢
  have hl : lv_has ls 14 [(0, .ref k0), (1, .int y), (2, .long a), (4, .int r), (5, .int k)] := hl
  refine lv_aload_n hx hb dX1_verify_0 rfl (lv_at hl 0 rfl) ?_
  refine lv_aload_n hx hb dX1_verify_1 rfl (lv_at hl 0 rfl) ?_
  refine va_get (D := (dC, dI)) (ci := 1) (v := .int pp) (C := RX1) (T := TX1) (N := 13) hx hb hts (by decide +kernel) hown hK hP 0 rfl rfl 8 (by decide) (hts (.fieldLink RX1 73 "DomainKeysModel" "p" "I") (by decide +kernel)) (fun _ h9 => h9) rfl dX1_verify_2 ?_
  refine lv_if_ne (tgt := 12) hx hb dX1_verify_5 (by decide) (fun c_5 => ?_) (fun c_5 => ?_)
  · obtain ⟨P, Q9, G, hP9, hQ9, hdom, rfl, rfl, rfl⟩ := hI.resolve_left (fun q => c_5 q.1)
    obtain ⟨hs1, hs2, hs3, hs4, hs5, hs6⟩ := dk_dom_sz hP9 hdom
    refine lv_iconst (v := 0) hx hb dX1_verify_12 (by decide) ?_
    refine va_put (D := (dC, dI)) (ci := 1) (v := .int 0) (ty := .int) (C := RX1) (T := TX1) (N := 13) hx hb hts (by decide +kernel) tyX1 tyX1_ok nmX1 hown hK hP hD hS 0 rfl rfl 12 (by decide) (hts (.fieldLink RX1 13 "DomainKeysModel" "thrown" "I") (by decide +kernel)) (fun _ h9 => h9) rfl (by decide +kernel) rfl rfl (Nat.le_of_ble_eq_true rfl) dX1_verify_13 (fun H locs hP hD hS => ?_)
    have hP : va_P (dC, dI) vwCl [(k0, .inr (1, [.int mp, .int mq, .int mo, .int hc, .long ms9, .int kp, .int kq, .int kn, .int (nI P), .int (nI Q9), .int (nI G), .ref k1, .int 0])), (k1, .inl (b1, 8, .inl sk))] H := hP
    have hD : va_D A [(k0, .inr (1, [.int mp, .int mq, .int mo, .int hc, .long ms9, .int kp, .int kq, .int kn, .int (nI P), .int (nI Q9), .int (nI G), .ref k1, .int 0])), (k1, .inl (b1, 8, .inl sk))] := hD
    refine lv_aload_n hx hb dX1_verify_16 rfl (lv_at hl 0 rfl) ?_
    refine va_get (D := (dC, dI)) (ci := 1) (v := .int 0) (C := RX1) (T := TX1) (N := 13) hx hb hts (by decide +kernel) hown hK hP 0 rfl rfl 12 (by decide) (hts (.fieldLink RX1 13 "DomainKeysModel" "thrown" "I") (by decide +kernel)) (fun _ h9 => h9) rfl dX1_verify_17 ?_
    refine lv_if_ne (tgt := 72) hx hb dX1_verify_20 (by decide) (fun c_20 => ?_) (fun c_20 => ?_)
    · exact absurd rfl c_20
    · refine lv_iload_n hx hb dX1_verify_23 rfl (lv_at hl 1 rfl) ?_
      refine lv_iconst (v := 1) hx hb dX1_verify_24 (by decide) ?_
      refine lv_icmp_lt (tgt := 72) hx hb dX1_verify_25 (by decide) (fun c_25 => ?_) (fun c_25 => ?_)
      · have hno : ¬ ((1 ≤ y ∧ y < nI P) ∧ dk_ex r (nI Q9) ∧ dk_ex k (nI Q9) ∧ dk_n r = dk_vv (nI P) (nI Q9) (nI G) y a r k) := fun q => dk_not_lt.mpr q.1.1 c_25
        refine lv_iconst (v := 0) hx hb dX1_verify_72 (by decide) ?_
        exact W.zret (v := 0) (ty := .boolean) hx hb hr rfl (fun t ht hW => ⟨⟨0, (mp, mq, mo, hc, ms9, kp, kq, kn, nI P, nI Q9, nI G, 0, sk), rfl, ⟨0, by rw [dk_fver, if_neg c_5, if_neg hno], rfl⟩, by rw [ht]; exact hP, va_K.moved hW.alike hK, hD⟩, hS.F ht⟩) hS.2.2 dX1_verify_73
      · refine lv_iload_n hx hb dX1_verify_28 rfl (lv_at hl 1 rfl) ?_
        refine lv_aload_n hx hb dX1_verify_29 rfl (lv_at hl 0 rfl) ?_
        refine va_get (D := (dC, dI)) (ci := 1) (v := .int (nI P)) (C := RX1) (T := TX1) (N := 13) hx hb hts (by decide +kernel) hown hK hP 0 rfl rfl 8 (by decide) (hts (.fieldLink RX1 73 "DomainKeysModel" "p" "I") (by decide +kernel)) (fun _ h9 => h9) rfl dX1_verify_30 ?_
        refine lv_iconst (v := 1) hx hb dX1_verify_33 (by decide) ?_
        refine lv_isub hx hb dX1_verify_34 ?_
        refine lv_icmp_gt (tgt := 72) hx hb dX1_verify_35 (by decide) (fun c_35 => ?_) (fun c_35 => ?_)
        · have hno : ¬ ((1 ≤ y ∧ y < nI P) ∧ dk_ex r (nI Q9) ∧ dk_ex k (nI Q9) ∧ dk_n r = dk_vv (nI P) (nI Q9) (nI G) y a r k) := fun q => dk_not_lt.mpr ((dk_lt1 (by omega) hP9).mpr q.1.2) c_35
          refine lv_iconst (v := 0) hx hb dX1_verify_72 (by decide) ?_
          exact W.zret (v := 0) (ty := .boolean) hx hb hr rfl (fun t ht hW => ⟨⟨0, (mp, mq, mo, hc, ms9, kp, kq, kn, nI P, nI Q9, nI G, 0, sk), rfl, ⟨0, by rw [dk_fver, if_neg c_5, if_neg hno], rfl⟩, by rw [ht]; exact hP, va_K.moved hW.alike hK, hD⟩, hS.F ht⟩) hS.2.2 dX1_verify_73
        · refine lv_iload hx hb dX1_verify_38 (lv_at hl 3 rfl) ?_
          refine lv_iconst (v := 1) hx hb dX1_verify_40 (by decide) ?_
          refine lv_icmp_lt (tgt := 72) hx hb dX1_verify_41 (by decide) (fun c_41 => ?_) (fun c_41 => ?_)
          · have hno : ¬ ((1 ≤ y ∧ y < nI P) ∧ dk_ex r (nI Q9) ∧ dk_ex k (nI Q9) ∧ dk_n r = dk_vv (nI P) (nI Q9) (nI G) y a r k) := fun q => dk_not_lt.mpr q.2.1.1 c_41
            refine lv_iconst (v := 0) hx hb dX1_verify_72 (by decide) ?_
            exact W.zret (v := 0) (ty := .boolean) hx hb hr rfl (fun t ht hW => ⟨⟨0, (mp, mq, mo, hc, ms9, kp, kq, kn, nI P, nI Q9, nI G, 0, sk), rfl, ⟨0, by rw [dk_fver, if_neg c_5, if_neg hno], rfl⟩, by rw [ht]; exact hP, va_K.moved hW.alike hK, hD⟩, hS.F ht⟩) hS.2.2 dX1_verify_73
          · refine lv_iload hx hb dX1_verify_44 (lv_at hl 3 rfl) ?_
            refine lv_aload_n hx hb dX1_verify_46 rfl (lv_at hl 0 rfl) ?_
            refine va_get (D := (dC, dI)) (ci := 1) (v := .int (nI Q9)) (C := RX1) (T := TX1) (N := 13) hx hb hts (by decide +kernel) hown hK hP 0 rfl rfl 9 (by decide) (hts (.fieldLink RX1 76 "DomainKeysModel" "q" "I") (by decide +kernel)) (fun _ h9 => h9) rfl dX1_verify_47 ?_
            refine lv_iconst (v := 1) hx hb dX1_verify_50 (by decide) ?_
            refine lv_isub hx hb dX1_verify_51 ?_
            refine lv_icmp_gt (tgt := 72) hx hb dX1_verify_52 (by decide) (fun c_52 => ?_) (fun c_52 => ?_)
            · have hno : ¬ ((1 ≤ y ∧ y < nI P) ∧ dk_ex r (nI Q9) ∧ dk_ex k (nI Q9) ∧ dk_n r = dk_vv (nI P) (nI Q9) (nI G) y a r k) := fun q => dk_not_lt.mpr ((dk_lt1 (by omega) hQ9).mpr q.2.1.2) c_52
              refine lv_iconst (v := 0) hx hb dX1_verify_72 (by decide) ?_
              exact W.zret (v := 0) (ty := .boolean) hx hb hr rfl (fun t ht hW => ⟨⟨0, (mp, mq, mo, hc, ms9, kp, kq, kn, nI P, nI Q9, nI G, 0, sk), rfl, ⟨0, by rw [dk_fver, if_neg c_5, if_neg hno], rfl⟩, by rw [ht]; exact hP, va_K.moved hW.alike hK, hD⟩, hS.F ht⟩) hS.2.2 dX1_verify_73
            · refine lv_iload hx hb dX1_verify_55 (lv_at hl 4 rfl) ?_
              refine lv_iconst (v := 1) hx hb dX1_verify_57 (by decide) ?_
              refine lv_icmp_lt (tgt := 72) hx hb dX1_verify_58 (by decide) (fun c_58 => ?_) (fun c_58 => ?_)
              · have hno : ¬ ((1 ≤ y ∧ y < nI P) ∧ dk_ex r (nI Q9) ∧ dk_ex k (nI Q9) ∧ dk_n r = dk_vv (nI P) (nI Q9) (nI G) y a r k) := fun q => dk_not_lt.mpr q.2.2.1.1 c_58
                refine lv_iconst (v := 0) hx hb dX1_verify_72 (by decide) ?_
                exact W.zret (v := 0) (ty := .boolean) hx hb hr rfl (fun t ht hW => ⟨⟨0, (mp, mq, mo, hc, ms9, kp, kq, kn, nI P, nI Q9, nI G, 0, sk), rfl, ⟨0, by rw [dk_fver, if_neg c_5, if_neg hno], rfl⟩, by rw [ht]; exact hP, va_K.moved hW.alike hK, hD⟩, hS.F ht⟩) hS.2.2 dX1_verify_73
              · refine lv_iload hx hb dX1_verify_61 (lv_at hl 4 rfl) ?_
                refine lv_aload_n hx hb dX1_verify_63 rfl (lv_at hl 0 rfl) ?_
                refine va_get (D := (dC, dI)) (ci := 1) (v := .int (nI Q9)) (C := RX1) (T := TX1) (N := 13) hx hb hts (by decide +kernel) hown hK hP 0 rfl rfl 9 (by decide) (hts (.fieldLink RX1 76 "DomainKeysModel" "q" "I") (by decide +kernel)) (fun _ h9 => h9) rfl dX1_verify_64 ?_
                refine lv_iconst (v := 1) hx hb dX1_verify_67 (by decide) ?_
                refine lv_isub hx hb dX1_verify_68 ?_
                refine lv_icmp_le (tgt := 74) hx hb dX1_verify_69 (by decide) (fun c_69 => ?_) (fun c_69 => ?_)
                · have hexr : dk_ex r (nI Q9) := ⟨dk_not_lt.mp c_41, (dk_lt1 (by omega) hQ9).mp (dk_not_lt.mp c_52)⟩
                  have hexs : dk_ex k (nI Q9) := ⟨dk_not_lt.mp c_58, (dk_lt1 (by omega) hQ9).mp c_69⟩
                  have hyy : 1 ≤ y ∧ y < nI P := ⟨dk_not_lt.mp c_25, (dk_lt1 (by omega) hP9).mp (dk_not_lt.mp c_35)⟩
                  obtain ⟨y9, hy1, hy2, rfl⟩ := dk_ex_of hP9 hyy
                  obtain ⟨r8, hr81, hr82, rfl⟩ := dk_ex_of hQ9 hexr
                  obtain ⟨k9, hk91, hk92, rfl⟩ := dk_ex_of hQ9 hexs
                  have hzl := dk_z_lt a
                  obtain ⟨W8, hW8⟩ : ∃ W8 : Nat, W8 = k9 ^ (Q9 - 2) % Q9 := ⟨_, rfl⟩
                  have hWlt : W8 < Q9 := by rw [hW8]; exact Nat.mod_lt _ (by omega)
                  have hzw : dk_z a * W8 ≤ 32768 * 1073741824 := Nat.mul_le_mul (by omega) (by omega)
                  have hrw9 : r8 * W8 ≤ 1073741824 * 1073741824 := Nat.mul_le_mul (by omega) (by omega)
                  obtain ⟨A8, hA8⟩ : ∃ A8 : Nat, A8 = dk_z a * W8 % Q9 := ⟨_, rfl⟩
                  have hAlt : A8 < Q9 := by rw [hA8]; exact Nat.mod_lt _ (by omega)
                  obtain ⟨B8, hB8⟩ : ∃ B8 : Nat, B8 = r8 * W8 % Q9 := ⟨_, rfl⟩
                  have hBlt : B8 < Q9 := by rw [hB8]; exact Nat.mod_lt _ (by omega)
                  obtain ⟨C8, hC8⟩ : ∃ C8 : Nat, C8 = G ^ A8 % P := ⟨_, rfl⟩
                  have hClt : C8 < P := by rw [hC8]; exact Nat.mod_lt _ (by omega)
                  obtain ⟨D8, hD8⟩ : ∃ D8 : Nat, D8 = y9 ^ B8 % P := ⟨_, rfl⟩
                  have hDlt : D8 < P := by rw [hD8]; exact Nat.mod_lt _ (by omega)
                  have hcd : C8 * D8 ≤ 2147483648 * 2147483648 := Nat.mul_le_mul (by omega) (by omega)
                  have hpl : C8 * D8 % P < P := Nat.mod_lt _ (by omega)
                  have hvl : C8 * D8 % P % Q9 < Q9 := Nat.mod_lt _ (by omega)
                  have hvw : dk_vw (nI Q9) (nI k9) = W8 := by rw [dk_vw, dk_n_nI (by omega), dk_n_nI hQ9, ← hW8]
                  have hvv : dk_vv (nI P) (nI Q9) (nI G) (nI y9) a (nI r8) (nI k9) = C8 * D8 % P % Q9 := by rw [dk_vv, hvw, dk_n_nI (show G < 2147483648 by omega), dk_n_nI (show y9 < 2147483648 by omega), dk_n_nI (show r8 < 2147483648 by omega), dk_n_nI hP9, dk_n_nI hQ9, ← hA8, ← hB8, ← hC8, ← hD8]
                  have hrn : dk_n (nI r8) = r8 := dk_n_nI (by omega)
                  refine lv_iload hx hb dX1_verify_74 (lv_at hl 4 rfl) ?_
                  refine lv_i2l hx hb dX1_verify_76 rfl ?_
                  refine lv_topl (fun v_76 ev_76 => ?_)
                  have ev_76 : v_76 = lN k9 := ev_76.trans (nI_l (by omega))
                  subst ev_76
                  refine lv_aload_n hx hb dX1_verify_77 rfl (lv_at hl 0 rfl) ?_
                  refine va_get (D := (dC, dI)) (ci := 1) (v := .int (nI Q9)) (C := RX1) (T := TX1) (N := 13) hx hb hts (by decide +kernel) hown hK hP 0 rfl rfl 9 (by decide) (hts (.fieldLink RX1 76 "DomainKeysModel" "q" "I") (by decide +kernel)) (fun _ h9 => h9) rfl dX1_verify_78 ?_
                  refine lv_iconst (v := 2) hx hb dX1_verify_81 (by decide) ?_
                  refine lv_isub hx hb dX1_verify_82 ?_
                  refine lv_topi (fun v_82 ev_82 => ?_)
                  have ev_82 : v_82 = nI (Q9 - 2) := ev_82.trans (pk_sub (b := 2) (by omega))
                  subst ev_82
                  refine lv_i2l hx hb dX1_verify_83 rfl ?_
                  refine lv_topl (fun v_83 ev_83 => ?_)
                  have ev_83 : v_83 = lN (Q9 - 2) := ev_83.trans (nI_l (by omega))
                  subst ev_83
                  refine lv_aload_n hx hb dX1_verify_84 rfl (lv_at hl 0 rfl) ?_
                  refine va_get (D := (dC, dI)) (ci := 1) (v := .int (nI Q9)) (C := RX1) (T := TX1) (N := 13) hx hb hts (by decide +kernel) hown hK hP 0 rfl rfl 9 (by decide) (hts (.fieldLink RX1 76 "DomainKeysModel" "q" "I") (by decide +kernel)) (fun _ h9 => h9) rfl dX1_verify_85 ?_
                  refine lv_i2l hx hb dX1_verify_88 rfl ?_
                  refine lv_topl (fun v_88 ev_88 => ?_)
                  have ev_88 : v_88 = lN Q9 := ev_88.trans (nI_l hQ9)
                  subst ev_88
                  refine vp_callSl (W.runS (As := [.long (lN k9), .long (lN (Q9 - 2)), .long (lN Q9)]) (rest := []) ⟨hx, hb, hml, hown, hts⟩ (dk_m_power l k9 (Q9 - 2) Q9 (by omega) (by omega) (by omega) hQ9) (va_cwS 3 hts gX1_verify_X1_power rfl rfl rfl (by decide +kernel) ⟨Nat.le_of_ble_eq_true rfl, Nat.le_of_ble_eq_true rfl⟩) ⟨fun _ _ _ _ q9 => q9, fun U hU hW => ⟨rfl, trivial⟩⟩ rfl rfl hl.1 rfl (lv_room (Nat.le_of_ble_eq_true rfl)) dX1_verify_89 ⟨Nat.le_of_ble_eq_true rfl, Nat.le_of_ble_eq_true rfl⟩) (fun r_89 hr_89 => ?_)
                  subst hr_89
                  refine lv_topl (fun v_89 ev_89 => ?_)
                  have ev_89 : v_89 = lN W8 := ev_89.trans (by rw [hW8])
                  subst ev_89
                  refine lv_lstore (lv' := [(6, .long (lN W8)), (0, .ref k0), (1, .int (nI y9)), (2, .long a), (4, .int (nI r8)), (5, .int (nI k9))]) hx hb dX1_verify_92 hl (by decide) rfl (fun ls hl => ?_)
                  refine lv_lload_n hx hb dX1_verify_94 rfl (lv_at hl 3 rfl) ?_
                  refine vp_callSl (W.runS (As := [.long a]) (rest := []) ⟨hx, hb, hml, hown, hts⟩ (dk_m_digestOf l a) (va_cwS 1 hts gX1_verify_X1_digestOf rfl rfl rfl (by decide +kernel) ⟨Nat.le_of_ble_eq_true rfl, Nat.le_of_ble_eq_true rfl⟩) ⟨fun _ _ _ _ q9 => q9, fun U hU hW => ⟨rfl, trivial⟩⟩ rfl rfl hl.1 rfl (lv_room (Nat.le_of_ble_eq_true rfl)) dX1_verify_95 ⟨Nat.le_of_ble_eq_true rfl, Nat.le_of_ble_eq_true rfl⟩) (fun r_95 hr_95 => ?_)
                  subst hr_95
                  refine lv_lload hx hb dX1_verify_98 (lv_at hl 0 rfl) ?_
                  refine lv_lmul hx hb dX1_verify_100 ?_
                  refine lv_topl (fun v_100 ev_100 => ?_)
                  have ev_100 : v_100 = lN (dk_z a * W8) := ev_100.trans (lN_mul _ _)
                  subst ev_100
                  refine lv_aload_n hx hb dX1_verify_101 rfl (lv_at hl 1 rfl) ?_
                  refine va_get (D := (dC, dI)) (ci := 1) (v := .int (nI Q9)) (C := RX1) (T := TX1) (N := 13) hx hb hts (by decide +kernel) hown hK hP 0 rfl rfl 9 (by decide) (hts (.fieldLink RX1 76 "DomainKeysModel" "q" "I") (by decide +kernel)) (fun _ h9 => h9) rfl dX1_verify_102 ?_
                  refine lv_i2l hx hb dX1_verify_105 rfl ?_
                  refine lv_topl (fun v_105 ev_105 => ?_)
                  have ev_105 : v_105 = lN Q9 := ev_105.trans (nI_l hQ9)
                  subst ev_105
                  refine lv_lrem hx hb dX1_verify_106 (dk_lne (by omega) (by omega)) ?_
                  refine lv_topl (fun v_106 ev_106 => ?_)
                  have ev_106 : v_106 = lN A8 := ev_106.trans ((pk_lRem (by omega) (by omega) (by omega)).trans (by rw [hA8]))
                  subst ev_106
                  refine lv_lstore (lv' := [(8, .long (lN A8)), (6, .long (lN W8)), (0, .ref k0), (1, .int (nI y9)), (2, .long a), (4, .int (nI r8)), (5, .int (nI k9))]) hx hb dX1_verify_107 hl (by decide) rfl (fun ls hl => ?_)
                  refine lv_iload hx hb dX1_verify_109 (lv_at hl 5 rfl) ?_
                  refine lv_i2l hx hb dX1_verify_111 rfl ?_
                  refine lv_topl (fun v_111 ev_111 => ?_)
                  have ev_111 : v_111 = lN r8 := ev_111.trans (nI_l (by omega))
                  subst ev_111
                  refine lv_lload hx hb dX1_verify_112 (lv_at hl 1 rfl) ?_
                  refine lv_lmul hx hb dX1_verify_114 ?_
                  refine lv_topl (fun v_114 ev_114 => ?_)
                  have ev_114 : v_114 = lN (r8 * W8) := ev_114.trans (lN_mul _ _)
                  subst ev_114
                  refine lv_aload_n hx hb dX1_verify_115 rfl (lv_at hl 2 rfl) ?_
                  refine va_get (D := (dC, dI)) (ci := 1) (v := .int (nI Q9)) (C := RX1) (T := TX1) (N := 13) hx hb hts (by decide +kernel) hown hK hP 0 rfl rfl 9 (by decide) (hts (.fieldLink RX1 76 "DomainKeysModel" "q" "I") (by decide +kernel)) (fun _ h9 => h9) rfl dX1_verify_116 ?_
                  refine lv_i2l hx hb dX1_verify_119 rfl ?_
                  refine lv_topl (fun v_119 ev_119 => ?_)
                  have ev_119 : v_119 = lN Q9 := ev_119.trans (nI_l hQ9)
                  subst ev_119
                  refine lv_lrem hx hb dX1_verify_120 (dk_lne (by omega) (by omega)) ?_
                  refine lv_topl (fun v_120 ev_120 => ?_)
                  have ev_120 : v_120 = lN B8 := ev_120.trans ((pk_lRem (by omega) (by omega) (by omega)).trans (by rw [hB8]))
                  subst ev_120
                  refine lv_lstore (lv' := [(10, .long (lN B8)), (8, .long (lN A8)), (6, .long (lN W8)), (0, .ref k0), (1, .int (nI y9)), (2, .long a), (4, .int (nI r8)), (5, .int (nI k9))]) hx hb dX1_verify_121 hl (by decide) rfl (fun ls hl => ?_)
                  refine lv_aload_n hx hb dX1_verify_123 rfl (lv_at hl 3 rfl) ?_
                  refine va_get (D := (dC, dI)) (ci := 1) (v := .int (nI G)) (C := RX1) (T := TX1) (N := 13) hx hb hts (by decide +kernel) hown hK hP 0 rfl rfl 10 (by decide) (hts (.fieldLink RX1 79 "DomainKeysModel" "g" "I") (by decide +kernel)) (fun _ h9 => h9) rfl dX1_verify_124 ?_
                  refine lv_i2l hx hb dX1_verify_127 rfl ?_
                  refine lv_topl (fun v_127 ev_127 => ?_)
                  have ev_127 : v_127 = lN G := ev_127.trans (nI_l (by omega))
                  subst ev_127
                  refine lv_lload hx hb dX1_verify_128 (lv_at hl 1 rfl) ?_
                  refine lv_aload_n hx hb dX1_verify_130 rfl (lv_at hl 3 rfl) ?_
                  refine va_get (D := (dC, dI)) (ci := 1) (v := .int (nI P)) (C := RX1) (T := TX1) (N := 13) hx hb hts (by decide +kernel) hown hK hP 0 rfl rfl 8 (by decide) (hts (.fieldLink RX1 73 "DomainKeysModel" "p" "I") (by decide +kernel)) (fun _ h9 => h9) rfl dX1_verify_131 ?_
                  refine lv_i2l hx hb dX1_verify_134 rfl ?_
                  refine lv_topl (fun v_134 ev_134 => ?_)
                  have ev_134 : v_134 = lN P := ev_134.trans (nI_l hP9)
                  subst ev_134
                  refine vp_callSl (W.runS (As := [.long (lN G), .long (lN A8), .long (lN P)]) (rest := []) ⟨hx, hb, hml, hown, hts⟩ (dk_m_power l G A8 P (by omega) (by omega) (by omega) hP9) (va_cwS 3 hts gX1_verify_X1_power rfl rfl rfl (by decide +kernel) ⟨Nat.le_of_ble_eq_true rfl, Nat.le_of_ble_eq_true rfl⟩) ⟨fun _ _ _ _ q9 => q9, fun U hU hW => ⟨rfl, trivial⟩⟩ rfl rfl hl.1 rfl (lv_room (Nat.le_of_ble_eq_true rfl)) dX1_verify_135 ⟨Nat.le_of_ble_eq_true rfl, Nat.le_of_ble_eq_true rfl⟩) (fun r_135 hr_135 => ?_)
                  subst hr_135
                  refine lv_topl (fun v_135 ev_135 => ?_)
                  have ev_135 : v_135 = lN C8 := ev_135.trans (by rw [hC8])
                  subst ev_135
                  refine lv_iload_n hx hb dX1_verify_138 rfl (lv_at hl 4 rfl) ?_
                  refine lv_i2l hx hb dX1_verify_139 rfl ?_
                  refine lv_topl (fun v_139 ev_139 => ?_)
                  have ev_139 : v_139 = lN y9 := ev_139.trans (nI_l (by omega))
                  subst ev_139
                  refine lv_lload hx hb dX1_verify_140 (lv_at hl 0 rfl) ?_
                  refine lv_aload_n hx hb dX1_verify_142 rfl (lv_at hl 3 rfl) ?_
                  refine va_get (D := (dC, dI)) (ci := 1) (v := .int (nI P)) (C := RX1) (T := TX1) (N := 13) hx hb hts (by decide +kernel) hown hK hP 0 rfl rfl 8 (by decide) (hts (.fieldLink RX1 73 "DomainKeysModel" "p" "I") (by decide +kernel)) (fun _ h9 => h9) rfl dX1_verify_143 ?_
                  refine lv_i2l hx hb dX1_verify_146 rfl ?_
                  refine lv_topl (fun v_146 ev_146 => ?_)
                  have ev_146 : v_146 = lN P := ev_146.trans (nI_l hP9)
                  subst ev_146
                  refine vp_callSl (W.runS (As := [.long (lN y9), .long (lN B8), .long (lN P)]) (rest := [.long (lN C8)]) ⟨hx, hb, hml, hown, hts⟩ (dk_m_power l y9 B8 P (by omega) (by omega) (by omega) hP9) (va_cwS 3 hts gX1_verify_X1_power rfl rfl rfl (by decide +kernel) ⟨Nat.le_of_ble_eq_true rfl, Nat.le_of_ble_eq_true rfl⟩) ⟨fun _ _ _ _ q9 => q9, fun U hU hW => ⟨rfl, trivial⟩⟩ rfl rfl hl.1 rfl (lv_room (Nat.le_of_ble_eq_true rfl)) dX1_verify_147 ⟨Nat.le_of_ble_eq_true rfl, Nat.le_of_ble_eq_true rfl⟩) (fun r_147 hr_147 => ?_)
                  subst hr_147
                  refine lv_topl (fun v_147 ev_147 => ?_)
                  have ev_147 : v_147 = lN D8 := ev_147.trans (by rw [hD8])
                  subst ev_147
                  refine lv_lmul hx hb dX1_verify_150 ?_
                  refine lv_topl (fun v_150 ev_150 => ?_)
                  have ev_150 : v_150 = lN (C8 * D8) := ev_150.trans (lN_mul _ _)
                  subst ev_150
                  refine lv_aload_n hx hb dX1_verify_151 rfl (lv_at hl 3 rfl) ?_
                  refine va_get (D := (dC, dI)) (ci := 1) (v := .int (nI P)) (C := RX1) (T := TX1) (N := 13) hx hb hts (by decide +kernel) hown hK hP 0 rfl rfl 8 (by decide) (hts (.fieldLink RX1 73 "DomainKeysModel" "p" "I") (by decide +kernel)) (fun _ h9 => h9) rfl dX1_verify_152 ?_
                  refine lv_i2l hx hb dX1_verify_155 rfl ?_
                  refine lv_topl (fun v_155 ev_155 => ?_)
                  have ev_155 : v_155 = lN P := ev_155.trans (nI_l hP9)
                  subst ev_155
                  refine lv_lrem hx hb dX1_verify_156 (dk_lne (by omega) (by omega)) ?_
                  refine lv_topl (fun v_156 ev_156 => ?_)
                  have ev_156 : v_156 = lN (C8 * D8 % P) := ev_156.trans (pk_lRem (by omega) (by omega) (by omega))
                  subst ev_156
                  refine lv_lstore (lv' := [(12, .long (lN (C8 * D8 % P))), (10, .long (lN B8)), (8, .long (lN A8)), (6, .long (lN W8)), (0, .ref k0), (1, .int (nI y9)), (2, .long a), (4, .int (nI r8)), (5, .int (nI k9))]) hx hb dX1_verify_157 hl (by decide) rfl (fun ls hl => ?_)
                  refine lv_lload hx hb dX1_verify_159 (lv_at hl 0 rfl) ?_
                  refine lv_aload_n hx hb dX1_verify_161 rfl (lv_at hl 4 rfl) ?_
                  refine va_get (D := (dC, dI)) (ci := 1) (v := .int (nI Q9)) (C := RX1) (T := TX1) (N := 13) hx hb hts (by decide +kernel) hown hK hP 0 rfl rfl 9 (by decide) (hts (.fieldLink RX1 76 "DomainKeysModel" "q" "I") (by decide +kernel)) (fun _ h9 => h9) rfl dX1_verify_162 ?_
                  refine lv_i2l hx hb dX1_verify_165 rfl ?_
                  refine lv_topl (fun v_165 ev_165 => ?_)
                  have ev_165 : v_165 = lN Q9 := ev_165.trans (nI_l hQ9)
                  subst ev_165
                  refine lv_lrem hx hb dX1_verify_166 (dk_lne (by omega) (by omega)) ?_
                  refine lv_topl (fun v_166 ev_166 => ?_)
                  have ev_166 : v_166 = lN (C8 * D8 % P % Q9) := ev_166.trans (pk_lRem (by omega) (by omega) (by omega))
                  subst ev_166
                  refine lv_iload hx hb dX1_verify_167 (lv_at hl 7 rfl) ?_
                  refine lv_i2l hx hb dX1_verify_169 rfl ?_
                  refine lv_topl (fun v_169 ev_169 => ?_)
                  have ev_169 : v_169 = lN r8 := ev_169.trans (nI_l (by omega))
                  subst ev_169
                  refine W.lcmp hx hb dX1_verify_170 ?_
                  refine lv_if_ne (tgt := 178) hx hb dX1_verify_171 (by decide) (fun c_171 => ?_) (fun c_171 => ?_)
                  · have hno : ¬ ((1 ≤ nI y9 ∧ nI y9 < nI P) ∧ dk_ex (nI r8) (nI Q9) ∧ dk_ex (nI k9) (nI Q9) ∧ dk_n (nI r8) = dk_vv (nI P) (nI Q9) (nI G) (nI y9) a (nI r8) (nI k9)) := fun q => by
                      rw [hvv, hrn] at q
                      exact c_171 ((lg_cmp_eq _ _).mpr (congrArg lN q.2.2.2.symm))
                    refine lv_iconst (v := 0) hx hb dX1_verify_178 (by decide) ?_
                    exact W.zret (v := 0) (ty := .boolean) hx hb hr rfl (fun t ht hW => ⟨⟨0, (mp, mq, mo, hc, ms9, kp, kq, kn, nI P, nI Q9, nI G, 0, sk), rfl, ⟨0, by rw [dk_fver, if_neg c_5, if_neg hno], rfl⟩, by rw [ht]; exact hP, va_K.moved hW.alike hK, hD⟩, hS.F ht⟩) hS.2.2 dX1_verify_179
                  · have hyes : ((1 ≤ nI y9 ∧ nI y9 < nI P) ∧ dk_ex (nI r8) (nI Q9) ∧ dk_ex (nI k9) (nI Q9) ∧ dk_n (nI r8) = dk_vv (nI P) (nI Q9) (nI G) (nI y9) a (nI r8) (nI k9)) := ⟨hyy, hexr, hexs, by rw [hvv, hrn]; exact ((pk_lEQ (by omega) (by omega)).mp ((lg_cmp_eq _ _).mp c_171)).symm⟩
                    refine lv_iconst (v := 1) hx hb dX1_verify_174 (by decide) ?_
                    refine lv_goto (tgt := 179) hx hb dX1_verify_175 (by decide) ?_
                    exact W.zret (v := 1) (ty := .boolean) hx hb hr rfl (fun t ht hW => ⟨⟨1, (mp, mq, mo, hc, ms9, kp, kq, kn, nI P, nI Q9, nI G, 0, sk), rfl, ⟨0, by rw [dk_fver, if_neg c_5, if_pos hyes], rfl⟩, by rw [ht]; exact hP, va_K.moved hW.alike hK, hD⟩, hS.F ht⟩) hS.2.2 dX1_verify_179
                · have hno : ¬ ((1 ≤ y ∧ y < nI P) ∧ dk_ex r (nI Q9) ∧ dk_ex k (nI Q9) ∧ dk_n r = dk_vv (nI P) (nI Q9) (nI G) y a r k) := fun q => c_69 ((dk_lt1 (by omega) hQ9).mpr q.2.2.1.2)
                  refine lv_iconst (v := 0) hx hb dX1_verify_72 (by decide) ?_
                  exact W.zret (v := 0) (ty := .boolean) hx hb hr rfl (fun t ht hW => ⟨⟨0, (mp, mq, mo, hc, ms9, kp, kq, kn, nI P, nI Q9, nI G, 0, sk), rfl, ⟨0, by rw [dk_fver, if_neg c_5, if_neg hno], rfl⟩, by rw [ht]; exact hP, va_K.moved hW.alike hK, hD⟩, hS.F ht⟩) hS.2.2 dX1_verify_73
  · refine lv_iconst (v := 1) hx hb dX1_verify_8 (by decide) ?_
    refine lv_goto (tgt := 13) hx hb dX1_verify_9 (by decide) ?_
    refine va_put (D := (dC, dI)) (ci := 1) (v := .int 1) (ty := .int) (C := RX1) (T := TX1) (N := 13) hx hb hts (by decide +kernel) tyX1 tyX1_ok nmX1 hown hK hP hD hS 0 rfl rfl 12 (by decide) (hts (.fieldLink RX1 13 "DomainKeysModel" "thrown" "I") (by decide +kernel)) (fun _ h9 => h9) rfl (by decide +kernel) rfl rfl (Nat.le_of_ble_eq_true rfl) dX1_verify_13 (fun H locs hP hD hS => ?_)
    have hP : va_P (dC, dI) vwCl [(k0, .inr (1, [.int mp, .int mq, .int mo, .int hc, .long ms9, .int kp, .int kq, .int kn, .int pp, .int qq, .int gg, .ref k1, .int 1])), (k1, .inl (b1, 8, .inl sk))] H := hP
    have hD : va_D A [(k0, .inr (1, [.int mp, .int mq, .int mo, .int hc, .long ms9, .int kp, .int kq, .int kn, .int pp, .int qq, .int gg, .ref k1, .int 1])), (k1, .inl (b1, 8, .inl sk))] := hD
    refine lv_aload_n hx hb dX1_verify_16 rfl (lv_at hl 0 rfl) ?_
    refine va_get (D := (dC, dI)) (ci := 1) (v := .int 1) (C := RX1) (T := TX1) (N := 13) hx hb hts (by decide +kernel) hown hK hP 0 rfl rfl 12 (by decide) (hts (.fieldLink RX1 13 "DomainKeysModel" "thrown" "I") (by decide +kernel)) (fun _ h9 => h9) rfl dX1_verify_17 ?_
    refine lv_if_ne (tgt := 72) hx hb dX1_verify_20 (by decide) (fun c_20 => ?_) (fun c_20 => ?_)
    · refine lv_iconst (v := 0) hx hb dX1_verify_72 (by decide) ?_
      exact W.zret (v := 0) (ty := .boolean) hx hb hr rfl (fun t ht hW => ⟨⟨0, (mp, mq, mo, hc, ms9, kp, kq, kn, pp, qq, gg, 1, sk), rfl, ⟨1, by rw [dk_fver, if_pos c_5], rfl⟩, by rw [ht]; exact hP, va_K.moved hW.alike hK, hD⟩, hS.F ht⟩) hS.2.2 dX1_verify_73
    · exact absurd c_20 (by decide)
