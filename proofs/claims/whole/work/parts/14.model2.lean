set_option maxHeartbeats 4000000 in
set_option maxRecDepth 100000 in
theorem dk_mgen_loop {p : Program} {l : Launch} {e : Env} {s : State} {m : MethodId} {args : Array Value} {below : List Frame} {meth : Method} {c : Code} {H : Heap} {locs : List Loc} {Q : State → Prop} (dC : Nat → ClassId) (dI : Nat → Nat → Nat) (k0 k1 : Nat) (b1 : ClassId) (mp mq mo hc : Int32) (ms9 : Int64) (kp kq kn pp qq gg th : Int32) (sk : Nat → Int32) (P Q9 ix : Nat) (hP0 : 2 ≤ P) (hP9 : P < 2147483648) (hQ0 : 1 ≤ Q9) (hQ9 : Q9 < 2147483648) (hix : ix < 256) (hx : p.tables.exec = Jvm.exec) (hb : c.code = cX1_generator) (hml : c.maxLocals = 9) (hown : s.vm.findClass RX1 = some m.cls) (hts : ∀ w ∈ wsX1_generator, w.before args s = true) (hP : va_P (dC, dI) vwCl [(k0, .inr (1, [.int mp, .int mq, .int mo, .int hc, .long ms9, .int (nI P), .int (nI Q9), .int kn, .int pp, .int qq, .int gg, .ref k1, .int 0])), (k1, .inl (b1, 8, .inl sk))] H) (hK : va_K (dC, dI) vwCl [(b1, .int)] s) (kr : ∀ (pc : Nat) (r : Int32) (ls : Array Slot), (pc = 115 ∨ pc = 123) → dk_Gn ms9 ix P Q9 r → W p l e (headSpec wsX1_generator ({ frames := 1, cells := 0, slots := 0, locals := 30 })).room s m args below meth c H locs 0 0 Q (F0 m pc ls [.int r])) :
    ∀ (n k9 : Nat) (ls : Array Slot), 102 ≤ k9 + n → 1 ≤ k9 → k9 ≤ 101 → (∀ j, 1 ≤ j → j < k9 → ¬ 1 < dk_g ms9 ix P Q9 j) → lv_has ls 9 [(0, .ref k0), (2, .long (dk_H ms9 (lN (100 + ix)))), (4, .int (nI k9))] → W p l e (headSpec wsX1_generator ({ frames := 1, cells := 0, slots := 0, locals := 30 })).room s m args below meth c H locs 0 0 Q (F0 m 57 ls []) := by
  intro n
  induction n with
  | zero =>
    intro k9 ls g1 g2 g3
    exact absurd g1 (by omega)
  | succ n ih =>
    intro k9 ls g1 g2 g3 g4 hl
    have hg : dk_g ms9 ix P Q9 k9 < P := Nat.mod_lt _ (by omega)
    have hw9 : dk_w ms9 ix P k9 < P := Nat.mod_lt _ (by omega)
    have hcf : (P - 1) / Q9 ≤ P - 1 := Nat.div_le_self _ _
    have hhl := dk_hN_lt (dk_H ms9 (lN (100 + ix))) (lN k9)
    refine lv_iload hx hb dX1_generator_57 (lv_at hl 2 rfl) ?_
    refine lv_bipush (v := 100) hx hb dX1_generator_59 (by decide) ?_
    refine lv_icmp_gt (tgt := 122) hx hb dX1_generator_61 (by decide) (fun c_61 => ?_) (fun c_61 => ?_)
    · have hk9 : 100 < k9 := (nI_ltI (by omega) (by omega)).mp c_61
      refine lv_iconst (v := 1) hx hb dX1_generator_122 (by decide) ?_
      exact kr 123 _ ls (Or.inr rfl) (Or.inr ⟨fun j q1 q2 => g4 j q1 (by omega), rfl⟩)
    · have hk9 : k9 ≤ 100 := by
        rcases Nat.lt_or_ge 100 k9 with q | q
        · exact absurd ((nI_ltI (a := 100) (b := k9) (by omega) (by omega)).mpr q) c_61
        · exact q
      refine lv_lload_n hx hb dX1_generator_64 rfl (lv_at hl 1 rfl) ?_
      refine lv_iload hx hb dX1_generator_65 (lv_at hl 2 rfl) ?_
      refine lv_i2l hx hb dX1_generator_67 rfl ?_
      refine lv_topl (fun v_67 ev_67 => ?_)
      have ev_67 : v_67 = lN k9 := ev_67.trans (nI_l (by omega))
      subst ev_67
      refine vp_callSl (W.runS (As := [.long (dk_H ms9 (lN (100 + ix))), .long (lN k9)]) (rest := []) ⟨hx, hb, hml, hown, hts⟩ (dk_m_h l (dk_H ms9 (lN (100 + ix))) (lN k9)) (va_cwS 2 hts gX1_generator_X1_h rfl rfl rfl (by decide +kernel) ⟨Nat.le_of_ble_eq_true rfl, Nat.le_of_ble_eq_true rfl⟩) ⟨fun _ _ _ _ q9 => q9, fun U hU hW => ⟨rfl, trivial⟩⟩ rfl rfl hl.1 rfl (lv_room (Nat.le_of_ble_eq_true rfl)) dX1_generator_68 ⟨Nat.le_of_ble_eq_true rfl, Nat.le_of_ble_eq_true rfl⟩) (fun r_68 hr_68 => ?_)
      subst hr_68
      refine lv_iconst (v := 1) hx hb dX1_generator_71 (by decide) ?_
      refine lv_lushr hx hb dX1_generator_72 rfl ?_
      refine lv_topl (fun v_72 ev_72 => ?_)
      have ev_72 : v_72 = lN (dk_hN (dk_H ms9 (lN (100 + ix))) (lN k9) / 2) := ev_72.trans (dk_hus _ _ (k := 1) (by decide))
      subst ev_72
      refine lv_lstore (lv' := [(5, .long (lN (dk_hN (dk_H ms9 (lN (100 + ix))) (lN k9) / 2))), (0, .ref k0), (2, .long (dk_H ms9 (lN (100 + ix)))), (4, .int (nI k9))]) hx hb dX1_generator_73 hl (by decide) rfl (fun ls hl => ?_)
      refine lv_lload hx hb dX1_generator_75 (lv_at hl 0 rfl) ?_
      refine lv_aload_n hx hb dX1_generator_77 rfl (lv_at hl 1 rfl) ?_
      refine va_get (D := (dC, dI)) (ci := 1) (v := .int (nI P)) (C := RX1) (T := TX1) (N := 13) hx hb hts (by decide +kernel) hown hK hP 0 rfl rfl 5 (by decide) (hts (.fieldLink RX1 58 "DomainKeysModel" "candidateP" "I") (by decide +kernel)) (fun _ h9 => h9) rfl dX1_generator_78 ?_
      refine lv_i2l hx hb dX1_generator_81 rfl ?_
      refine lv_topl (fun v_81 ev_81 => ?_)
      have ev_81 : v_81 = lN P := ev_81.trans (nI_l (by omega))
      subst ev_81
      refine lv_lrem hx hb dX1_generator_82 (dk_lne (by omega) (by omega)) ?_
      refine lv_topl (fun v_82 ev_82 => ?_)
      have ev_82 : v_82 = lN (dk_w ms9 ix P k9) := ev_82.trans (pk_lRem (by omega) (by omega) (by omega))
      subst ev_82
      refine lv_aload_n hx hb dX1_generator_83 rfl (lv_at hl 1 rfl) ?_
      refine va_get (D := (dC, dI)) (ci := 1) (v := .int (nI P)) (C := RX1) (T := TX1) (N := 13) hx hb hts (by decide +kernel) hown hK hP 0 rfl rfl 5 (by decide) (hts (.fieldLink RX1 58 "DomainKeysModel" "candidateP" "I") (by decide +kernel)) (fun _ h9 => h9) rfl dX1_generator_84 ?_
      refine lv_iconst (v := 1) hx hb dX1_generator_87 (by decide) ?_
      refine lv_isub hx hb dX1_generator_88 ?_
      refine lv_topi (fun v_88 ev_88 => ?_)
      have ev_88 : v_88 = nI (P - 1) := ev_88.trans (pk_sub (b := 1) (by omega))
      subst ev_88
      refine lv_aload_n hx hb dX1_generator_89 rfl (lv_at hl 1 rfl) ?_
      refine va_get (D := (dC, dI)) (ci := 1) (v := .int (nI Q9)) (C := RX1) (T := TX1) (N := 13) hx hb hts (by decide +kernel) hown hK hP 0 rfl rfl 6 (by decide) (hts (.fieldLink RX1 61 "DomainKeysModel" "candidateQ" "I") (by decide +kernel)) (fun _ h9 => h9) rfl dX1_generator_90 ?_
      refine lv_idiv hx hb dX1_generator_93 (nI_ne0 (by omega) (by omega)) ?_
      refine lv_topi (fun v_93 ev_93 => ?_)
      have ev_93 : v_93 = nI ((P - 1) / Q9) := ev_93.trans (pk_div (by omega) (by omega) (by omega))
      subst ev_93
      refine lv_i2l hx hb dX1_generator_94 rfl ?_
      refine lv_topl (fun v_94 ev_94 => ?_)
      have ev_94 : v_94 = lN ((P - 1) / Q9) := ev_94.trans (nI_l (by omega))
      subst ev_94
      refine lv_aload_n hx hb dX1_generator_95 rfl (lv_at hl 1 rfl) ?_
      refine va_get (D := (dC, dI)) (ci := 1) (v := .int (nI P)) (C := RX1) (T := TX1) (N := 13) hx hb hts (by decide +kernel) hown hK hP 0 rfl rfl 5 (by decide) (hts (.fieldLink RX1 58 "DomainKeysModel" "candidateP" "I") (by decide +kernel)) (fun _ h9 => h9) rfl dX1_generator_96 ?_
      refine lv_i2l hx hb dX1_generator_99 rfl ?_
      refine lv_topl (fun v_99 ev_99 => ?_)
      have ev_99 : v_99 = lN P := ev_99.trans (nI_l (by omega))
      subst ev_99
      refine vp_callSl (W.runS (As := [.long (lN (dk_w ms9 ix P k9)), .long (lN ((P - 1) / Q9)), .long (lN P)]) (rest := []) ⟨hx, hb, hml, hown, hts⟩ (dk_m_power l (dk_w ms9 ix P k9) ((P - 1) / Q9) P (by omega) (by omega) hP0 hP9) (va_cwS 3 hts gX1_generator_X1_power rfl rfl rfl (by decide +kernel) ⟨Nat.le_of_ble_eq_true rfl, Nat.le_of_ble_eq_true rfl⟩) ⟨fun _ _ _ _ q9 => q9, fun U hU hW => ⟨rfl, trivial⟩⟩ rfl rfl hl.1 rfl (lv_room (Nat.le_of_ble_eq_true rfl)) dX1_generator_100 ⟨Nat.le_of_ble_eq_true rfl, Nat.le_of_ble_eq_true rfl⟩) (fun r_100 hr_100 => ?_)
      subst hr_100
      refine lv_lstore (lv' := [(7, .long (lN (dk_g ms9 ix P Q9 k9))), (5, .long (lN (dk_hN (dk_H ms9 (lN (100 + ix))) (lN k9) / 2))), (0, .ref k0), (2, .long (dk_H ms9 (lN (100 + ix)))), (4, .int (nI k9))]) hx hb dX1_generator_103 hl (by decide) rfl (fun ls hl => ?_)
      refine lv_lload hx hb dX1_generator_105 (lv_at hl 0 rfl) ?_
      refine lv_lconst (v := 1) hx hb dX1_generator_107 (by decide) ?_
      refine W.lcmp hx hb dX1_generator_108 ?_
      refine lv_if_le (tgt := 116) hx hb dX1_generator_109 (by decide) (fun c_109 => ?_) (fun c_109 => ?_)
      · have hno : ¬ 1 < dk_g ms9 ix P Q9 k9 := fun q => by
          have := (pk_lLE (b := 1) (by omega) (by omega)).mp ((lg_cmp_le _ _).mp c_109)
          omega
        refine lv_iinc (v := (nI (k9 + 1))) (lv' := [(4, .int (nI (k9 + 1))), (7, .long (lN (dk_g ms9 ix P Q9 k9))), (5, .long (lN (dk_hN (dk_H ms9 (lN (100 + ix))) (lN k9) / 2))), (0, .ref k0), (2, .long (dk_H ms9 (lN (100 + ix))))]) hx hb dX1_generator_116 hl (k := 4) rfl (nI_1 k9) (by decide) rfl (fun ls hl => ?_)
        refine lv_goto (tgt := 57) hx hb dX1_generator_119 (by decide) ?_
        exact ih (k9 + 1) ls (by omega) (by omega) (by omega) (fun j q1 q2 => if q : j < k9 then g4 j q1 q else by rw [show j = k9 by omega]; exact hno) (lv_sub hl [3, 4, 0] rfl)
      · have hyes : 1 < dk_g ms9 ix P Q9 k9 := by
          rcases Nat.lt_or_ge 1 (dk_g ms9 ix P Q9 k9) with q | q
          · exact q
          · exact absurd ((lg_cmp_le _ _).mpr ((pk_lLE (a := dk_g ms9 ix P Q9 k9) (b := 1) (by omega) (by omega)).mpr q)) c_109
        refine lv_lload hx hb dX1_generator_112 (lv_at hl 0 rfl) ?_
        refine lv_l2i hx hb dX1_generator_114 rfl ?_
        refine lv_topi (fun v_114 ev_114 => ?_)
        have ev_114 : v_114 = nI (dk_g ms9 ix P Q9 k9) := ev_114.trans (lN_i _)
        subst ev_114
        exact kr 115 _ ls (Or.inl rfl) (Or.inl ⟨k9, g2, hk9, hyes, g4, rfl⟩)

set_option maxHeartbeats 4000000 in
set_option maxRecDepth 100000 in
theorem dk_m_generator (l : Launch) (dC : Nat → ClassId) (dI : Nat → Nat → Nat) (k0 k1 : Nat) (b1 : ClassId) (mp mq mo hc : Int32) (ms9 : Int64) (kp kq kn pp qq gg th : Int32) (sk : Nat → Int32) (x : Int32) (hI : hc = 0 ∨ ∃ c : Nat, c < 64 ∧ dk_ok ms9 c ∧ dk_pr (dk_q ms9) ∧ kp = nI (dk_try ms9 c) ∧ kq = nI (dk_q ms9)) (sz : Nat) : Met l yX1_generator wsX1_generator ({ frames := 1, cells := 0, slots := 0, locals := 30 }) (va_Pc [.ref k0, .int x] (fun U => U.heap.size = sz ∧ va_P (dC, dI) vwCl [(k0, .inr (1, [.int mp, .int mq, .int mo, .int hc, .long ms9, .int kp, .int kq, .int kn, .int pp, .int qq, .int gg, .ref k1, .int th])), (k1, .inl (b1, 8, .inl sk))] U.heap ∧ va_K (dC, dI) vwCl [(b1, .int)] U ∧ va_D (fun _ => True) [(k0, .inr (1, [.int mp, .int mq, .int mo, .int hc, .long ms9, .int kp, .int kq, .int kn, .int pp, .int qq, .int gg, .ref k1, .int th])), (k1, .inl (b1, 8, .inl sk))])) (va_Qi (fun (r9 : Int32) (u9 : dk_T) => (hc = 0 ∧ u9 = (mp, mq, mo, hc, ms9, kp, kq, kn, pp, qq, gg, 1, sk)) ∨ (¬ hc = 0 ∧ ¬ (0 ≤ x ∧ x < 256) ∧ u9 = (mp, mq, mo, hc, ms9, kp, kq, kn, pp, qq, gg, 2, sk)) ∨ (¬ hc = 0 ∧ u9 = (mp, mq, mo, hc, ms9, kp, kq, kn, pp, qq, gg, 0, sk) ∧ ∃ ix : Nat, ix < 256 ∧ x = nI ix ∧ dk_Gn ms9 ix (dk_n kp) (dk_n kq) r9)) (dk_C dC dI (va_A [(k0, .inr (1, [.int mp, .int mq, .int mo, .int hc, .long ms9, .int kp, .int kq, .int kn, .int pp, .int qq, .int gg, .ref k1, .int th])), (k1, .inl (b1, 8, .inl sk))] sz) k0 k1 b1) (va_A [(k0, .inr (1, [.int mp, .int mq, .int mo, .int hc, .long ms9, .int kp, .int kq, .int kn, .int pp, .int qq, .int gg, .ref k1, .int th])), (k1, .inl (b1, 8, .inl sk))] sz)) 0 0 (va_A [(k0, .inr (1, [.int mp, .int mq, .int mo, .int hc, .long ms9, .int kp, .int kq, .int kn, .int pp, .int qq, .int gg, .ref k1, .int th])), (k1, .inl (b1, 8, .inl sk))] sz) := by
  refine Met.ofW (cc := cX1_generator) (maxL := 9) (ret := (some .int)) (by decide) rfl ?_
  intro p e s m args below meth c s₁ B hml hv
  obtain ⟨rfl, hsz, hP, hK, hD0⟩ := hv
  have hx := B.exec
  have hb := B.bytes
  have hr := B.returns
  have hts := atoms_spec (ws := wsX1_generator) B.pre
  have hown : s.vm.findClass RX1 = some m.cls := findClass_of_methodNamed B.named
  have hlocks := B.notSynchronized
  subst hsz
  have hD := hD0.self (sz := s.heap.size)
  generalize hAe : va_A [(k0, .inr (1, [.int mp, .int mq, .int mo, .int hc, .long ms9, .int kp, .int kq, .int kn, .int pp, .int qq, .int gg, .ref k1, .int th])), (k1, .inl (b1, 8, .inl sk))] s.heap.size = A at hD ⊢
  have hA : ∀ q : Nat, s.heap.size ≤ q → A q := fun q h => by rw [← hAe]; exact Or.inr h
  have hS : va_S A s.heap s.heap [] := va_S.rf
  have hl := lv_entry ([.ref k0, .int x]) (n := 9) (Nat.le_of_ble_eq_true rfl)
  rw [lg_entry_eq]
  generalize (lg_sl ([.ref k0, .int x]) ++ List.replicate (9 - (lg_sl ([.ref k0, .int x])).length) Slot.unset).toArray = ls at hl ⊢
  have hl : lv_has ls 9 [(0, .ref k0), (1, .int x)] := hl
  refine lv_aload_n hx hb dX1_generator_0 rfl (lv_at hl 0 rfl) ?_
  refine lv_aload_n hx hb dX1_generator_1 rfl (lv_at hl 0 rfl) ?_
  refine va_get (D := (dC, dI)) (ci := 1) (v := .int hc) (C := RX1) (T := TX1) (N := 13) hx hb hts (by decide +kernel) hown hK hP 0 rfl rfl 3 (by decide) (hts (.fieldLink RX1 50 "DomainKeysModel" "hasCandidate" "Z") (by decide +kernel)) (fun _ h9 => h9) rfl dX1_generator_2 ?_
  refine lv_if_ne (tgt := 12) hx hb dX1_generator_5 (by decide) (fun c_5 => ?_) (fun c_5 => ?_)
  · refine lv_iload_n hx hb dX1_generator_12 rfl (lv_at hl 1 rfl) ?_
    refine lv_if_lt (tgt := 23) hx hb dX1_generator_13 (by decide) (fun c_13 => ?_) (fun c_13 => ?_)
    · have hno : ¬ (0 ≤ x ∧ x < 256) := fun q => dk_not_lt.mpr q.1 c_13
      refine lv_iconst (v := 2) hx hb dX1_generator_23 (by decide) ?_
      refine lv_goto (tgt := 28) hx hb dX1_generator_24 (by decide) ?_
      refine va_put (D := (dC, dI)) (ci := 1) (v := .int 2) (ty := .int) (C := RX1) (T := TX1) (N := 13) hx hb hts (by decide +kernel) tyX1 tyX1_ok nmX1 hown hK hP hD hS 0 rfl rfl 12 (by decide) (hts (.fieldLink RX1 13 "DomainKeysModel" "thrown" "I") (by decide +kernel)) (fun _ h9 => h9) rfl (by decide +kernel) rfl rfl (Nat.le_of_ble_eq_true rfl) dX1_generator_28 (fun H locs hP hD hS => ?_)
      have hP : va_P (dC, dI) vwCl [(k0, .inr (1, [.int mp, .int mq, .int mo, .int hc, .long ms9, .int kp, .int kq, .int kn, .int pp, .int qq, .int gg, .ref k1, .int 2])), (k1, .inl (b1, 8, .inl sk))] H := hP
      have hD : va_D A [(k0, .inr (1, [.int mp, .int mq, .int mo, .int hc, .long ms9, .int kp, .int kq, .int kn, .int pp, .int qq, .int gg, .ref k1, .int 2])), (k1, .inl (b1, 8, .inl sk))] := hD
      refine lv_aload_n hx hb dX1_generator_31 rfl (lv_at hl 0 rfl) ?_
      refine va_get (D := (dC, dI)) (ci := 1) (v := .int 2) (C := RX1) (T := TX1) (N := 13) hx hb hts (by decide +kernel) hown hK hP 0 rfl rfl 12 (by decide) (hts (.fieldLink RX1 13 "DomainKeysModel" "thrown" "I") (by decide +kernel)) (fun _ h9 => h9) rfl dX1_generator_32 ?_
      refine lv_if_eq (tgt := 40) hx hb dX1_generator_35 (by decide) (fun c_35 => ?_) (fun c_35 => ?_)
      · exact absurd c_35 (by decide)
      · refine lv_iconst (v := 0) hx hb dX1_generator_38 (by decide) ?_
        exact W.iret (v := 0) hx hb hr (fun t ht hW => ⟨⟨0, (mp, mq, mo, hc, ms9, kp, kq, kn, pp, qq, gg, 2, sk), rfl, Or.inr (Or.inl ⟨c_5, hno, rfl⟩), by rw [ht]; exact hP, va_K.moved hW.alike hK, hD⟩, hS.F ht⟩) hS.2.2 dX1_generator_39
    · refine lv_iload_n hx hb dX1_generator_16 rfl (lv_at hl 1 rfl) ?_
      refine lv_sipush (v := 255) hx hb dX1_generator_17 (by decide) ?_
      refine lv_icmp_le (tgt := 27) hx hb dX1_generator_20 (by decide) (fun c_20 => ?_) (fun c_20 => ?_)
      · obtain ⟨n9, hn9, hok, hpq, rfl, rfl⟩ := hI.resolve_left c_5
        have htr := dk_try_in ms9 n9
        have hqi := dk_q_in ms9
        obtain ⟨ix, hix0, rfl⟩ := dk_ge0 (dk_not_lt.mp c_13)
        have hix : ix < 256 := by
          have := (nI_leI (b := 255) (by omega) (by omega)).mp c_20
          omega
        refine lv_iconst (v := 0) hx hb dX1_generator_27 (by decide) ?_
        refine va_put (D := (dC, dI)) (ci := 1) (v := .int 0) (ty := .int) (C := RX1) (T := TX1) (N := 13) hx hb hts (by decide +kernel) tyX1 tyX1_ok nmX1 hown hK hP hD hS 0 rfl rfl 12 (by decide) (hts (.fieldLink RX1 13 "DomainKeysModel" "thrown" "I") (by decide +kernel)) (fun _ h9 => h9) rfl (by decide +kernel) rfl rfl (Nat.le_of_ble_eq_true rfl) dX1_generator_28 (fun H locs hP hD hS => ?_)
        have hP : va_P (dC, dI) vwCl [(k0, .inr (1, [.int mp, .int mq, .int mo, .int hc, .long ms9, .int (nI (dk_try ms9 n9)), .int (nI (dk_q ms9)), .int kn, .int pp, .int qq, .int gg, .ref k1, .int 0])), (k1, .inl (b1, 8, .inl sk))] H := hP
        have hD : va_D A [(k0, .inr (1, [.int mp, .int mq, .int mo, .int hc, .long ms9, .int (nI (dk_try ms9 n9)), .int (nI (dk_q ms9)), .int kn, .int pp, .int qq, .int gg, .ref k1, .int 0])), (k1, .inl (b1, 8, .inl sk))] := hD
        refine lv_aload_n hx hb dX1_generator_31 rfl (lv_at hl 0 rfl) ?_
        refine va_get (D := (dC, dI)) (ci := 1) (v := .int 0) (C := RX1) (T := TX1) (N := 13) hx hb hts (by decide +kernel) hown hK hP 0 rfl rfl 12 (by decide) (hts (.fieldLink RX1 13 "DomainKeysModel" "thrown" "I") (by decide +kernel)) (fun _ h9 => h9) rfl dX1_generator_32 ?_
        refine lv_if_eq (tgt := 40) hx hb dX1_generator_35 (by decide) (fun c_35 => ?_) (fun c_35 => ?_)
        · refine lv_aload_n hx hb dX1_generator_40 rfl (lv_at hl 0 rfl) ?_
          refine va_get (D := (dC, dI)) (ci := 1) (v := .long ms9) (C := RX1) (T := TX1) (N := 13) hx hb hts (by decide +kernel) hown hK hP 0 rfl rfl 4 (by decide) (hts (.fieldLink RX1 54 "DomainKeysModel" "seed" "J") (by decide +kernel)) (fun _ h9 => h9) rfl dX1_generator_41 ?_
          refine lv_ldc2 (v := 100) hx hb hown (hts (.constantLong RX1 67 100) (by decide +kernel)) dX1_generator_44 ?_
          refine lv_iload_n hx hb dX1_generator_47 rfl (lv_at hl 1 rfl) ?_
          refine lv_i2l hx hb dX1_generator_48 rfl ?_
          refine lv_ladd hx hb dX1_generator_49 ?_
          refine lv_topl (fun v_49 ev_49 => ?_)
          have ev_49 : v_49 = lN (100 + ix) := ev_49.trans ((congrArg (fun q => (100 : Int64) + q) (nI_l (by omega))).trans (lN_add 100 ix))
          subst ev_49
          refine vp_callSl (W.runS (As := [.long ms9, .long (lN (100 + ix))]) (rest := []) ⟨hx, hb, hml, hown, hts⟩ (dk_m_h l ms9 (lN (100 + ix))) (va_cwS 2 hts gX1_generator_X1_h rfl rfl rfl (by decide +kernel) ⟨Nat.le_of_ble_eq_true rfl, Nat.le_of_ble_eq_true rfl⟩) ⟨fun _ _ _ _ q9 => q9, fun U hU hW => ⟨rfl, trivial⟩⟩ rfl rfl hl.1 rfl (lv_room (Nat.le_of_ble_eq_true rfl)) dX1_generator_50 ⟨Nat.le_of_ble_eq_true rfl, Nat.le_of_ble_eq_true rfl⟩) (fun r_50 hr_50 => ?_)
          subst hr_50
          refine lv_lstore_n (lv' := [(2, .long (dk_H ms9 (lN (100 + ix)))), (0, .ref k0), (1, .int (nI ix))]) hx hb dX1_generator_53 rfl hl (by decide) rfl (fun ls hl => ?_)
          refine lv_iconst (v := 1) hx hb dX1_generator_54 (by decide) ?_
          refine lv_istore (lv' := [(4, .int 1), (2, .long (dk_H ms9 (lN (100 + ix)))), (0, .ref k0), (1, .int (nI ix))]) hx hb dX1_generator_55 hl (by decide) rfl (fun ls hl => ?_)
          refine dk_mgen_loop dC dI k0 k1 b1 mp mq mo hc ms9 (nI (dk_try ms9 n9)) (nI (dk_q ms9)) kn pp qq gg th sk (dk_try ms9 n9) (dk_q ms9) ix (by have := hok.1; omega) htr.2 (by omega) (by omega) hix hx hb hml hown hts hP hK (fun pc r ls hpc hgn => ?_) 101 1 ls (by omega) (by omega) (by omega) (fun j q1 q2 => absurd q2 (by omega)) (lv_sub hl [2, 1, 0] rfl)
          rcases hpc with rfl | rfl
          · exact W.iret (v := r) hx hb hr (fun t ht hW => ⟨⟨r, (mp, mq, mo, hc, ms9, nI (dk_try ms9 n9), nI (dk_q ms9), kn, pp, qq, gg, 0, sk), rfl, Or.inr (Or.inr ⟨c_5, rfl, ix, hix, rfl, by rw [dk_n_nI htr.2, dk_n_nI (by omega)]; exact hgn⟩), by rw [ht]; exact hP, va_K.moved hW.alike hK, hD⟩, hS.F ht⟩) hS.2.2 dX1_generator_115
          · exact W.iret (v := r) hx hb hr (fun t ht hW => ⟨⟨r, (mp, mq, mo, hc, ms9, nI (dk_try ms9 n9), nI (dk_q ms9), kn, pp, qq, gg, 0, sk), rfl, Or.inr (Or.inr ⟨c_5, rfl, ix, hix, rfl, by rw [dk_n_nI htr.2, dk_n_nI (by omega)]; exact hgn⟩), by rw [ht]; exact hP, va_K.moved hW.alike hK, hD⟩, hS.F ht⟩) hS.2.2 dX1_generator_123
        · exact absurd rfl c_35
      · have hno : ¬ (0 ≤ x ∧ x < 256) := fun q => by
          obtain ⟨ix, q1, rfl⟩ := dk_ge0 q.1
          have q2 := (nI_ltI (b := 256) (by omega) (by omega)).mp q.2
          exact c_20 (nI_le (b := 255) (by omega) (by omega))
        refine lv_iconst (v := 2) hx hb dX1_generator_23 (by decide) ?_
        refine lv_goto (tgt := 28) hx hb dX1_generator_24 (by decide) ?_
        refine va_put (D := (dC, dI)) (ci := 1) (v := .int 2) (ty := .int) (C := RX1) (T := TX1) (N := 13) hx hb hts (by decide +kernel) tyX1 tyX1_ok nmX1 hown hK hP hD hS 0 rfl rfl 12 (by decide) (hts (.fieldLink RX1 13 "DomainKeysModel" "thrown" "I") (by decide +kernel)) (fun _ h9 => h9) rfl (by decide +kernel) rfl rfl (Nat.le_of_ble_eq_true rfl) dX1_generator_28 (fun H locs hP hD hS => ?_)
        have hP : va_P (dC, dI) vwCl [(k0, .inr (1, [.int mp, .int mq, .int mo, .int hc, .long ms9, .int kp, .int kq, .int kn, .int pp, .int qq, .int gg, .ref k1, .int 2])), (k1, .inl (b1, 8, .inl sk))] H := hP
        have hD : va_D A [(k0, .inr (1, [.int mp, .int mq, .int mo, .int hc, .long ms9, .int kp, .int kq, .int kn, .int pp, .int qq, .int gg, .ref k1, .int 2])), (k1, .inl (b1, 8, .inl sk))] := hD
        refine lv_aload_n hx hb dX1_generator_31 rfl (lv_at hl 0 rfl) ?_
        refine va_get (D := (dC, dI)) (ci := 1) (v := .int 2) (C := RX1) (T := TX1) (N := 13) hx hb hts (by decide +kernel) hown hK hP 0 rfl rfl 12 (by decide) (hts (.fieldLink RX1 13 "DomainKeysModel" "thrown" "I") (by decide +kernel)) (fun _ h9 => h9) rfl dX1_generator_32 ?_
        refine lv_if_eq (tgt := 40) hx hb dX1_generator_35 (by decide) (fun c_35 => ?_) (fun c_35 => ?_)
        · exact absurd c_35 (by decide)
        · refine lv_iconst (v := 0) hx hb dX1_generator_38 (by decide) ?_
          exact W.iret (v := 0) hx hb hr (fun t ht hW => ⟨⟨0, (mp, mq, mo, hc, ms9, kp, kq, kn, pp, qq, gg, 2, sk), rfl, Or.inr (Or.inl ⟨c_5, hno, rfl⟩), by rw [ht]; exact hP, va_K.moved hW.alike hK, hD⟩, hS.F ht⟩) hS.2.2 dX1_generator_39
  · refine lv_iconst (v := 1) hx hb dX1_generator_8 (by decide) ?_
    refine lv_goto (tgt := 28) hx hb dX1_generator_9 (by decide) ?_
    refine va_put (D := (dC, dI)) (ci := 1) (v := .int 1) (ty := .int) (C := RX1) (T := TX1) (N := 13) hx hb hts (by decide +kernel) tyX1 tyX1_ok nmX1 hown hK hP hD hS 0 rfl rfl 12 (by decide) (hts (.fieldLink RX1 13 "DomainKeysModel" "thrown" "I") (by decide +kernel)) (fun _ h9 => h9) rfl (by decide +kernel) rfl rfl (Nat.le_of_ble_eq_true rfl) dX1_generator_28 (fun H locs hP hD hS => ?_)
    have hP : va_P (dC, dI) vwCl [(k0, .inr (1, [.int mp, .int mq, .int mo, .int hc, .long ms9, .int kp, .int kq, .int kn, .int pp, .int qq, .int gg, .ref k1, .int 1])), (k1, .inl (b1, 8, .inl sk))] H := hP
    have hD : va_D A [(k0, .inr (1, [.int mp, .int mq, .int mo, .int hc, .long ms9, .int kp, .int kq, .int kn, .int pp, .int qq, .int gg, .ref k1, .int 1])), (k1, .inl (b1, 8, .inl sk))] := hD
    refine lv_aload_n hx hb dX1_generator_31 rfl (lv_at hl 0 rfl) ?_
    refine va_get (D := (dC, dI)) (ci := 1) (v := .int 1) (C := RX1) (T := TX1) (N := 13) hx hb hts (by decide +kernel) hown hK hP 0 rfl rfl 12 (by decide) (hts (.fieldLink RX1 13 "DomainKeysModel" "thrown" "I") (by decide +kernel)) (fun _ h9 => h9) rfl dX1_generator_32 ?_
    refine lv_if_eq (tgt := 40) hx hb dX1_generator_35 (by decide) (fun c_35 => ?_) (fun c_35 => ?_)
    · exact absurd c_35 (by decide)
    · refine lv_iconst (v := 0) hx hb dX1_generator_38 (by decide) ?_
      exact W.iret (v := 0) hx hb hr (fun t ht hW => ⟨⟨0, (mp, mq, mo, hc, ms9, kp, kq, kn, pp, qq, gg, 1, sk), rfl, Or.inl ⟨c_5, rfl⟩, by rw [ht]; exact hP, va_K.moved hW.alike hK, hD⟩, hS.F ht⟩) hS.2.2 dX1_generator_39
