set_option maxHeartbeats 4000000 in
set_option maxRecDepth 100000 in
theorem dk_madopt_loop {p : Program} {l : Launch} {e : Env} {s : State} {m : MethodId} {args : Array Value} {below : List Frame} {meth : Method} {c : Code} {Q : State → Prop} {A : Nat → Prop} (dC : Nat → ClassId) (dI : Nat → Nat → Nat) (k0 k1 : Nat) (b1 : ClassId) (mp mq mo hc : Int32) (ms9 : Int64) (kp kq kn pp qq gg th : Int32) (sk : Nat → Int32) (hx : p.tables.exec = Jvm.exec) (hb : c.code = cX1_adopt) (hml : c.maxLocals = 6) (hown : s.vm.findClass RX1 = some m.cls) (hts : ∀ w ∈ wsX1_adopt, w.before args s = true) (hA : ∀ q : Nat, s.heap.size ≤ q → A q) (hK : va_K (dC, dI) vwCl [(b1, .int)] s) (kk : ∀ (H : Heap) (locs : List Loc) (ls : Array Slot), va_P (dC, dI) vwCl [(k0, .inr (1, [.int mp, .int mq, .int mo, .int hc, .long ms9, .int kp, .int kq, .int kn, .int pp, .int qq, .int gg, .ref k1, .int th])), (k1, .inl (b1, 8, .inl (dk_clr 8 sk)))] H → va_D A [(k0, .inr (1, [.int mp, .int mq, .int mo, .int hc, .long ms9, .int kp, .int kq, .int kn, .int pp, .int qq, .int gg, .ref k1, .int th])), (k1, .inl (b1, 8, .inl (dk_clr 8 sk)))] → va_S A s.heap H locs → W p l e (headSpec wsX1_adopt ({ frames := 1, cells := 0, slots := 0, locals := 30 })).room s m args below meth c H locs 0 0 Q (F0 m 135 ls [])) :
    ∀ (n i9 : Nat) (H : Heap) (locs : List Loc) (ls : Array Slot), 9 ≤ i9 + n → i9 ≤ 8 → va_P (dC, dI) vwCl [(k0, .inr (1, [.int mp, .int mq, .int mo, .int hc, .long ms9, .int kp, .int kq, .int kn, .int pp, .int qq, .int gg, .ref k1, .int th])), (k1, .inl (b1, 8, .inl (dk_clr i9 sk)))] H → va_D A [(k0, .inr (1, [.int mp, .int mq, .int mo, .int hc, .long ms9, .int kp, .int kq, .int kn, .int pp, .int qq, .int gg, .ref k1, .int th])), (k1, .inl (b1, 8, .inl (dk_clr i9 sk)))] → va_S A s.heap H locs → lv_has ls 6 [(0, .ref k0), (5, .int (nI i9))] → W p l e (headSpec wsX1_adopt ({ frames := 1, cells := 0, slots := 0, locals := 30 })).room s m args below meth c H locs 0 0 Q (F0 m 114 ls []) := by
  intro n
  induction n with
  | zero =>
    intro i9 H locs ls g1 g2
    exact absurd g1 (by omega)
  | succ n ih =>
    intro i9 H locs ls g1 g2 hP hD hS hl
    refine lv_iload hx hb dX1_adopt_114 (lv_at hl 1 rfl) ?_
    refine lv_bipush (v := 8) hx hb dX1_adopt_116 (by decide) ?_
    refine lv_icmp_ge (tgt := 135) hx hb dX1_adopt_118 (by decide) (fun c_118 => ?_) (fun c_118 => ?_)
    · have hi9 : i9 = 8 := by
        have := (nI_leI (a := 8) (b := i9) (by omega) (by omega)).mp c_118
        omega
      subst hi9
      exact kk H locs ls hP hD hS
    · have hi9 : i9 < 8 := by
        rcases Nat.lt_or_ge i9 8 with q | q
        · exact q
        · exact absurd ((nI_leI (a := 8) (b := i9) (by omega) (by omega)).mpr q) c_118
      refine lv_aload_n hx hb dX1_adopt_121 rfl (lv_at hl 0 rfl) ?_
      refine va_get (D := (dC, dI)) (ci := 1) (v := .ref k1) (C := RX1) (T := TX1) (N := 13) hx hb hts (by decide +kernel) hown hK hP 0 rfl rfl 11 (by decide) (hts (.fieldLink RX1 7 "DomainKeysModel" "secrets" "[I") (by decide +kernel)) (fun _ h9 => h9) rfl dX1_adopt_122 ?_
      refine lv_iload hx hb dX1_adopt_125 (lv_at hl 1 rfl) ?_
      refine lv_iconst (v := 0) hx hb dX1_adopt_127 (by decide) ?_
      refine va_iast hx hb hK hP hD hS 1 0 rfl rfl (vp_in_nI hi9 (by decide)) dX1_adopt_128 (fun H locs hP hD hS => ?_)
      rw [(nI_clamp (Nat.lt_trans hi9 (by decide)))] at hP hD
      have hP : va_P (dC, dI) vwCl [(k0, .inr (1, [.int mp, .int mq, .int mo, .int hc, .long ms9, .int kp, .int kq, .int kn, .int pp, .int qq, .int gg, .ref k1, .int th])), (k1, .inl (b1, 8, .inl (upd (dk_clr i9 sk) i9 0)))] H := hP
      have hD : va_D A [(k0, .inr (1, [.int mp, .int mq, .int mo, .int hc, .long ms9, .int kp, .int kq, .int kn, .int pp, .int qq, .int gg, .ref k1, .int th])), (k1, .inl (b1, 8, .inl (upd (dk_clr i9 sk) i9 0)))] := hD
      refine lv_iinc (v := (nI (i9 + 1))) (lv' := [(5, .int (nI (i9 + 1))), (0, .ref k0)]) hx hb dX1_adopt_129 hl (k := 1) rfl (nI_1 i9) (by decide) rfl (fun ls hl => ?_)
      refine lv_goto (tgt := 114) hx hb dX1_adopt_132 (by decide) ?_
      rw [dk_clr_s] at hP hD
      exact ih (i9 + 1) H locs ls (by omega) (by omega) hP hD hS (lv_sub hl [1, 0] rfl)

set_option maxHeartbeats 4000000 in
set_option maxRecDepth 100000 in
theorem dk_m_adopt (l : Launch) (dC : Nat → ClassId) (dI : Nat → Nat → Nat) (k0 k1 : Nat) (b1 : ClassId) (mp mq mo hc : Int32) (ms9 : Int64) (kp kq kn pp qq gg th : Int32) (sk : Nat → Int32) (x y z : Int32) (sz : Nat) : Met l yX1_adopt wsX1_adopt ({ frames := 1, cells := 0, slots := 0, locals := 30 }) (va_Pc [.ref k0, .int x, .int y, .int z] (fun U => U.heap.size = sz ∧ va_P (dC, dI) vwCl [(k0, .inr (1, [.int mp, .int mq, .int mo, .int hc, .long ms9, .int kp, .int kq, .int kn, .int pp, .int qq, .int gg, .ref k1, .int th])), (k1, .inl (b1, 8, .inl sk))] U.heap ∧ va_K (dC, dI) vwCl [(b1, .int)] U ∧ va_D (fun _ => True) [(k0, .inr (1, [.int mp, .int mq, .int mo, .int hc, .long ms9, .int kp, .int kq, .int kn, .int pp, .int qq, .int gg, .ref k1, .int th])), (k1, .inl (b1, 8, .inl sk))])) (va_Qv (fun u9 : dk_T => (dk_domI x y z ∧ u9 = (mp, mq, mo, hc, ms9, kp, kq, kn, x, y, z, 0, dk_clr 8 sk)) ∨ (¬ dk_domI x y z ∧ u9 = (mp, mq, mo, hc, ms9, kp, kq, kn, pp, qq, gg, 1, sk))) (dk_C dC dI (va_A [(k0, .inr (1, [.int mp, .int mq, .int mo, .int hc, .long ms9, .int kp, .int kq, .int kn, .int pp, .int qq, .int gg, .ref k1, .int th])), (k1, .inl (b1, 8, .inl sk))] sz) k0 k1 b1) (va_A [(k0, .inr (1, [.int mp, .int mq, .int mo, .int hc, .long ms9, .int kp, .int kq, .int kn, .int pp, .int qq, .int gg, .ref k1, .int th])), (k1, .inl (b1, 8, .inl sk))] sz)) 0 0 (va_A [(k0, .inr (1, [.int mp, .int mq, .int mo, .int hc, .long ms9, .int kp, .int kq, .int kn, .int pp, .int qq, .int gg, .ref k1, .int th])), (k1, .inl (b1, 8, .inl sk))] sz) := by
  refine Met.ofW (cc := cX1_adopt) (maxL := 6) (ret := none) (by decide) rfl ?_
  intro p e s m args below meth c s₁ B hml hv
  obtain ⟨rfl, hsz, hP, hK, hD0⟩ := hv
  have hx := B.exec
  have hb := B.bytes
  have hr := B.returns
  have hts := atoms_spec (ws := wsX1_adopt) B.pre
  have hown : s.vm.findClass RX1 = some m.cls := findClass_of_methodNamed B.named
  have hlocks := B.notSynchronized
  subst hsz
  have hD := hD0.self (sz := s.heap.size)
  generalize hAe : va_A [(k0, .inr (1, [.int mp, .int mq, .int mo, .int hc, .long ms9, .int kp, .int kq, .int kn, .int pp, .int qq, .int gg, .ref k1, .int th])), (k1, .inl (b1, 8, .inl sk))] s.heap.size = A at hD ⊢
  have hA : ∀ q : Nat, s.heap.size ≤ q → A q := fun q h => by rw [← hAe]; exact Or.inr h
  have hS : va_S A s.heap s.heap [] := va_S.rf
  have hl := lv_entry ([.ref k0, .int x, .int y, .int z]) (n := 6) (Nat.le_of_ble_eq_true rfl)
  rw [lg_entry_eq]
  generalize (lg_sl ([.ref k0, .int x, .int y, .int z]) ++ List.replicate (6 - (lg_sl ([.ref k0, .int x, .int y, .int z])).length) Slot.unset).toArray = ls at hl ⊢
  have hl : lv_has ls 6 [(0, .ref k0), (1, .int x), (2, .int y), (3, .int z)] := hl
  refine lv_iload_n hx hb dX1_adopt_0 rfl (lv_at hl 1 rfl) ?_
  refine lv_iconst (v := 2) hx hb dX1_adopt_1 (by decide) ?_
  refine lv_icmp_le (tgt := 34) hx hb dX1_adopt_2 (by decide) (fun c_2 => ?_) (fun c_2 => ?_)
  · have hno : ¬ dk_domI x y z := fun ⟨P1, Q1, G1, z1, z2, e1, e2, e3, d1, d2, d3, d4, d5, d6, d7⟩ => by
      rw [e1] at c_2
      have := (nI_leI (a := P1) (b := 2) z1 (by decide)).mp c_2
      omega
    refine lv_iconst (v := 0) hx hb dX1_adopt_34 (by decide) ?_
    refine lv_istore (lv' := [(4, .int 0), (0, .ref k0), (1, .int x), (2, .int y), (3, .int z)]) hx hb dX1_adopt_35 hl (by decide) rfl (fun ls hl => ?_)
    refine lv_iload hx hb dX1_adopt_37 (lv_at hl 0 rfl) ?_
    refine lv_if_eq (tgt := 74) hx hb dX1_adopt_39 (by decide) (fun c_39 => ?_) (fun c_39 => ?_)
    · refine lv_iconst (v := 0) hx hb dX1_adopt_74 (by decide) ?_
      refine lv_istore (lv' := [(4, .int 0), (0, .ref k0), (1, .int x), (2, .int y), (3, .int z)]) hx hb dX1_adopt_75 hl (by decide) rfl (fun ls hl => ?_)
      refine lv_aload_n hx hb dX1_adopt_77 rfl (lv_at hl 1 rfl) ?_
      refine lv_iload hx hb dX1_adopt_78 (lv_at hl 0 rfl) ?_
      refine lv_if_eq (tgt := 87) hx hb dX1_adopt_80 (by decide) (fun c_80 => ?_) (fun c_80 => ?_)
      · refine lv_iconst (v := 1) hx hb dX1_adopt_87 (by decide) ?_
        refine va_put (D := (dC, dI)) (ci := 1) (v := .int 1) (ty := .int) (C := RX1) (T := TX1) (N := 13) hx hb hts (by decide +kernel) tyX1 tyX1_ok nmX1 hown hK hP hD hS 0 rfl rfl 12 (by decide) (hts (.fieldLink RX1 13 "DomainKeysModel" "thrown" "I") (by decide +kernel)) (fun _ h9 => h9) rfl (by decide +kernel) rfl rfl (Nat.le_of_ble_eq_true rfl) dX1_adopt_88 (fun H locs hP hD hS => ?_)
        have hP : va_P (dC, dI) vwCl [(k0, .inr (1, [.int mp, .int mq, .int mo, .int hc, .long ms9, .int kp, .int kq, .int kn, .int pp, .int qq, .int gg, .ref k1, .int 1])), (k1, .inl (b1, 8, .inl sk))] H := hP
        have hD : va_D A [(k0, .inr (1, [.int mp, .int mq, .int mo, .int hc, .long ms9, .int kp, .int kq, .int kn, .int pp, .int qq, .int gg, .ref k1, .int 1])), (k1, .inl (b1, 8, .inl sk))] := hD
        refine lv_iload hx hb dX1_adopt_91 (lv_at hl 0 rfl) ?_
        refine lv_if_eq (tgt := 135) hx hb dX1_adopt_93 (by decide) (fun c_93 => ?_) (fun c_93 => ?_)
        · exact W.vret hx hb hr (fun t ht hW => ⟨⟨(mp, mq, mo, hc, ms9, kp, kq, kn, pp, qq, gg, 1, sk), rfl, Or.inr ⟨hno, rfl⟩, by rw [ht]; exact hP, va_K.moved hW.alike hK, hD⟩, hS.F ht⟩) hS.2.2 dX1_adopt_135
        · exact absurd rfl c_93
      · exact absurd rfl c_80
    · exact absurd rfl c_39
  · refine lv_iload_n hx hb dX1_adopt_5 rfl (lv_at hl 2 rfl) ?_
    refine lv_iconst (v := 2) hx hb dX1_adopt_6 (by decide) ?_
    refine lv_icmp_le (tgt := 34) hx hb dX1_adopt_7 (by decide) (fun c_7 => ?_) (fun c_7 => ?_)
    · have hno : ¬ dk_domI x y z := fun ⟨P1, Q1, G1, z1, z2, e1, e2, e3, d1, d2, d3, d4, d5, d6, d7⟩ => by
        rw [e2] at c_7
        have := (nI_leI (a := Q1) (b := 2) z2 (by decide)).mp c_7
        omega
      refine lv_iconst (v := 0) hx hb dX1_adopt_34 (by decide) ?_
      refine lv_istore (lv' := [(4, .int 0), (0, .ref k0), (1, .int x), (2, .int y), (3, .int z)]) hx hb dX1_adopt_35 hl (by decide) rfl (fun ls hl => ?_)
      refine lv_iload hx hb dX1_adopt_37 (lv_at hl 0 rfl) ?_
      refine lv_if_eq (tgt := 74) hx hb dX1_adopt_39 (by decide) (fun c_39 => ?_) (fun c_39 => ?_)
      · refine lv_iconst (v := 0) hx hb dX1_adopt_74 (by decide) ?_
        refine lv_istore (lv' := [(4, .int 0), (0, .ref k0), (1, .int x), (2, .int y), (3, .int z)]) hx hb dX1_adopt_75 hl (by decide) rfl (fun ls hl => ?_)
        refine lv_aload_n hx hb dX1_adopt_77 rfl (lv_at hl 1 rfl) ?_
        refine lv_iload hx hb dX1_adopt_78 (lv_at hl 0 rfl) ?_
        refine lv_if_eq (tgt := 87) hx hb dX1_adopt_80 (by decide) (fun c_80 => ?_) (fun c_80 => ?_)
        · refine lv_iconst (v := 1) hx hb dX1_adopt_87 (by decide) ?_
          refine va_put (D := (dC, dI)) (ci := 1) (v := .int 1) (ty := .int) (C := RX1) (T := TX1) (N := 13) hx hb hts (by decide +kernel) tyX1 tyX1_ok nmX1 hown hK hP hD hS 0 rfl rfl 12 (by decide) (hts (.fieldLink RX1 13 "DomainKeysModel" "thrown" "I") (by decide +kernel)) (fun _ h9 => h9) rfl (by decide +kernel) rfl rfl (Nat.le_of_ble_eq_true rfl) dX1_adopt_88 (fun H locs hP hD hS => ?_)
          have hP : va_P (dC, dI) vwCl [(k0, .inr (1, [.int mp, .int mq, .int mo, .int hc, .long ms9, .int kp, .int kq, .int kn, .int pp, .int qq, .int gg, .ref k1, .int 1])), (k1, .inl (b1, 8, .inl sk))] H := hP
          have hD : va_D A [(k0, .inr (1, [.int mp, .int mq, .int mo, .int hc, .long ms9, .int kp, .int kq, .int kn, .int pp, .int qq, .int gg, .ref k1, .int 1])), (k1, .inl (b1, 8, .inl sk))] := hD
          refine lv_iload hx hb dX1_adopt_91 (lv_at hl 0 rfl) ?_
          refine lv_if_eq (tgt := 135) hx hb dX1_adopt_93 (by decide) (fun c_93 => ?_) (fun c_93 => ?_)
          · exact W.vret hx hb hr (fun t ht hW => ⟨⟨(mp, mq, mo, hc, ms9, kp, kq, kn, pp, qq, gg, 1, sk), rfl, Or.inr ⟨hno, rfl⟩, by rw [ht]; exact hP, va_K.moved hW.alike hK, hD⟩, hS.F ht⟩) hS.2.2 dX1_adopt_135
          · exact absurd rfl c_93
        · exact absurd rfl c_80
      · exact absurd rfl c_39
    · obtain ⟨P, hP9, rfl⟩ := nI_of (x := x) (fun q => c_2 (Int32.le_of_lt (Int32.lt_trans q (by decide))))
      obtain ⟨Q9, hQ9, rfl⟩ := nI_of (x := y) (fun q => c_7 (Int32.le_of_lt (Int32.lt_trans q (by decide))))
      have hP3 : 3 ≤ P := by
        rcases Nat.lt_or_ge P 3 with q | q
        · exact absurd ((nI_leI (a := P) (b := 2) hP9 (by decide)).mpr (by omega)) c_2
        · exact q
      have hQ3 : 3 ≤ Q9 := by
        rcases Nat.lt_or_ge Q9 3 with q | q
        · exact absurd ((nI_leI (a := Q9) (b := 2) hQ9 (by decide)).mpr (by omega)) c_7
        · exact q
      refine lv_iload_n hx hb dX1_adopt_10 rfl (lv_at hl 1 rfl) ?_
      refine lv_iconst (v := 1) hx hb dX1_adopt_11 (by decide) ?_
      refine lv_isub hx hb dX1_adopt_12 ?_
      refine lv_topi (fun v_12 ev_12 => ?_)
      have ev_12 : v_12 = nI (P - 1) := ev_12.trans (pk_sub (b := 1) (by omega))
      subst ev_12
      refine lv_iload_n hx hb dX1_adopt_13 rfl (lv_at hl 2 rfl) ?_
      refine lv_irem hx hb dX1_adopt_14 (nI_ne0 (by omega) hQ9) ?_
      refine lv_topi (fun v_14 ev_14 => ?_)
      have ev_14 : v_14 = nI ((P - 1) % Q9) := ev_14.trans (pk_rem (by omega) (by omega) hQ9)
      subst ev_14
      refine lv_if_ne (tgt := 34) hx hb dX1_adopt_15 (by decide) (fun c_15 => ?_) (fun c_15 => ?_)
      · have hno : ¬ dk_domI (nI P) (nI Q9) z := fun ⟨P1, Q1, G1, z1, z2, e1, e2, e3, d1, d2, d3, d4, d5, d6, d7⟩ => by
          have f1 : P1 = P := (nI_eq z1 hP9).mp e1.symm
          have f2 : Q1 = Q9 := (nI_eq z2 hQ9).mp e2.symm
          subst f1 f2
          exact c_15 (by rw [d4]; rfl)
        refine lv_iconst (v := 0) hx hb dX1_adopt_34 (by decide) ?_
        refine lv_istore (lv' := [(4, .int 0), (0, .ref k0), (1, .int (nI P)), (2, .int (nI Q9)), (3, .int z)]) hx hb dX1_adopt_35 hl (by decide) rfl (fun ls hl => ?_)
        refine lv_iload hx hb dX1_adopt_37 (lv_at hl 0 rfl) ?_
        refine lv_if_eq (tgt := 74) hx hb dX1_adopt_39 (by decide) (fun c_39 => ?_) (fun c_39 => ?_)
        · refine lv_iconst (v := 0) hx hb dX1_adopt_74 (by decide) ?_
          refine lv_istore (lv' := [(4, .int 0), (0, .ref k0), (1, .int (nI P)), (2, .int (nI Q9)), (3, .int z)]) hx hb dX1_adopt_75 hl (by decide) rfl (fun ls hl => ?_)
          refine lv_aload_n hx hb dX1_adopt_77 rfl (lv_at hl 1 rfl) ?_
          refine lv_iload hx hb dX1_adopt_78 (lv_at hl 0 rfl) ?_
          refine lv_if_eq (tgt := 87) hx hb dX1_adopt_80 (by decide) (fun c_80 => ?_) (fun c_80 => ?_)
          · refine lv_iconst (v := 1) hx hb dX1_adopt_87 (by decide) ?_
            refine va_put (D := (dC, dI)) (ci := 1) (v := .int 1) (ty := .int) (C := RX1) (T := TX1) (N := 13) hx hb hts (by decide +kernel) tyX1 tyX1_ok nmX1 hown hK hP hD hS 0 rfl rfl 12 (by decide) (hts (.fieldLink RX1 13 "DomainKeysModel" "thrown" "I") (by decide +kernel)) (fun _ h9 => h9) rfl (by decide +kernel) rfl rfl (Nat.le_of_ble_eq_true rfl) dX1_adopt_88 (fun H locs hP hD hS => ?_)
            have hP : va_P (dC, dI) vwCl [(k0, .inr (1, [.int mp, .int mq, .int mo, .int hc, .long ms9, .int kp, .int kq, .int kn, .int pp, .int qq, .int gg, .ref k1, .int 1])), (k1, .inl (b1, 8, .inl sk))] H := hP
            have hD : va_D A [(k0, .inr (1, [.int mp, .int mq, .int mo, .int hc, .long ms9, .int kp, .int kq, .int kn, .int pp, .int qq, .int gg, .ref k1, .int 1])), (k1, .inl (b1, 8, .inl sk))] := hD
            refine lv_iload hx hb dX1_adopt_91 (lv_at hl 0 rfl) ?_
            refine lv_if_eq (tgt := 135) hx hb dX1_adopt_93 (by decide) (fun c_93 => ?_) (fun c_93 => ?_)
            · exact W.vret hx hb hr (fun t ht hW => ⟨⟨(mp, mq, mo, hc, ms9, kp, kq, kn, pp, qq, gg, 1, sk), rfl, Or.inr ⟨hno, rfl⟩, by rw [ht]; exact hP, va_K.moved hW.alike hK, hD⟩, hS.F ht⟩) hS.2.2 dX1_adopt_135
            · exact absurd rfl c_93
          · exact absurd rfl c_80
        · exact absurd rfl c_39
      · have hlt : (P - 1) % Q9 < Q9 := Nat.mod_lt _ (by omega)
        have h15 : (P - 1) % Q9 = 0 := (nI_eq (by omega) (by decide)).mp c_15
        refine lv_iload_n hx hb dX1_adopt_18 rfl (lv_at hl 3 rfl) ?_
        refine lv_iconst (v := 2) hx hb dX1_adopt_19 (by decide) ?_
        refine lv_icmp_lt (tgt := 34) hx hb dX1_adopt_20 (by decide) (fun c_20 => ?_) (fun c_20 => ?_)
        · have hno : ¬ dk_domI (nI P) (nI Q9) z := fun ⟨P1, Q1, G1, z1, z2, e1, e2, e3, d1, d2, d3, d4, d5, d6, d7⟩ => by
            have f1 : P1 = P := (nI_eq z1 hP9).mp e1.symm
            have f2 : Q1 = Q9 := (nI_eq z2 hQ9).mp e2.symm
            subst f1 f2
            rw [e3] at c_20
            have := (nI_ltI (a := G1) (b := 2) (by omega) (by decide)).mp c_20
            omega
          refine lv_iconst (v := 0) hx hb dX1_adopt_34 (by decide) ?_
          refine lv_istore (lv' := [(4, .int 0), (0, .ref k0), (1, .int (nI P)), (2, .int (nI Q9)), (3, .int z)]) hx hb dX1_adopt_35 hl (by decide) rfl (fun ls hl => ?_)
          refine lv_iload hx hb dX1_adopt_37 (lv_at hl 0 rfl) ?_
          refine lv_if_eq (tgt := 74) hx hb dX1_adopt_39 (by decide) (fun c_39 => ?_) (fun c_39 => ?_)
          · refine lv_iconst (v := 0) hx hb dX1_adopt_74 (by decide) ?_
            refine lv_istore (lv' := [(4, .int 0), (0, .ref k0), (1, .int (nI P)), (2, .int (nI Q9)), (3, .int z)]) hx hb dX1_adopt_75 hl (by decide) rfl (fun ls hl => ?_)
            refine lv_aload_n hx hb dX1_adopt_77 rfl (lv_at hl 1 rfl) ?_
            refine lv_iload hx hb dX1_adopt_78 (lv_at hl 0 rfl) ?_
            refine lv_if_eq (tgt := 87) hx hb dX1_adopt_80 (by decide) (fun c_80 => ?_) (fun c_80 => ?_)
            · refine lv_iconst (v := 1) hx hb dX1_adopt_87 (by decide) ?_
              refine va_put (D := (dC, dI)) (ci := 1) (v := .int 1) (ty := .int) (C := RX1) (T := TX1) (N := 13) hx hb hts (by decide +kernel) tyX1 tyX1_ok nmX1 hown hK hP hD hS 0 rfl rfl 12 (by decide) (hts (.fieldLink RX1 13 "DomainKeysModel" "thrown" "I") (by decide +kernel)) (fun _ h9 => h9) rfl (by decide +kernel) rfl rfl (Nat.le_of_ble_eq_true rfl) dX1_adopt_88 (fun H locs hP hD hS => ?_)
              have hP : va_P (dC, dI) vwCl [(k0, .inr (1, [.int mp, .int mq, .int mo, .int hc, .long ms9, .int kp, .int kq, .int kn, .int pp, .int qq, .int gg, .ref k1, .int 1])), (k1, .inl (b1, 8, .inl sk))] H := hP
              have hD : va_D A [(k0, .inr (1, [.int mp, .int mq, .int mo, .int hc, .long ms9, .int kp, .int kq, .int kn, .int pp, .int qq, .int gg, .ref k1, .int 1])), (k1, .inl (b1, 8, .inl sk))] := hD
              refine lv_iload hx hb dX1_adopt_91 (lv_at hl 0 rfl) ?_
              refine lv_if_eq (tgt := 135) hx hb dX1_adopt_93 (by decide) (fun c_93 => ?_) (fun c_93 => ?_)
              · exact W.vret hx hb hr (fun t ht hW => ⟨⟨(mp, mq, mo, hc, ms9, kp, kq, kn, pp, qq, gg, 1, sk), rfl, Or.inr ⟨hno, rfl⟩, by rw [ht]; exact hP, va_K.moved hW.alike hK, hD⟩, hS.F ht⟩) hS.2.2 dX1_adopt_135
              · exact absurd rfl c_93
            · exact absurd rfl c_80
          · exact absurd rfl c_39
        · refine lv_iload_n hx hb dX1_adopt_23 rfl (lv_at hl 3 rfl) ?_
          refine lv_iload_n hx hb dX1_adopt_24 rfl (lv_at hl 1 rfl) ?_
          refine lv_iconst (v := 1) hx hb dX1_adopt_25 (by decide) ?_
          refine lv_isub hx hb dX1_adopt_26 ?_
          refine lv_topi (fun v_26 ev_26 => ?_)
          have ev_26 : v_26 = nI (P - 1) := ev_26.trans (pk_sub (b := 1) (by omega))
          subst ev_26
          refine lv_icmp_gt (tgt := 34) hx hb dX1_adopt_27 (by decide) (fun c_27 => ?_) (fun c_27 => ?_)
          · have hno : ¬ dk_domI (nI P) (nI Q9) z := fun ⟨P1, Q1, G1, z1, z2, e1, e2, e3, d1, d2, d3, d4, d5, d6, d7⟩ => by
              have f1 : P1 = P := (nI_eq z1 hP9).mp e1.symm
              have f2 : Q1 = Q9 := (nI_eq z2 hQ9).mp e2.symm
              subst f1 f2
              rw [e3] at c_27
              have := (nI_ltI (by omega) (by omega)).mp c_27
              omega
            refine lv_iconst (v := 0) hx hb dX1_adopt_34 (by decide) ?_
            refine lv_istore (lv' := [(4, .int 0), (0, .ref k0), (1, .int (nI P)), (2, .int (nI Q9)), (3, .int z)]) hx hb dX1_adopt_35 hl (by decide) rfl (fun ls hl => ?_)
            refine lv_iload hx hb dX1_adopt_37 (lv_at hl 0 rfl) ?_
            refine lv_if_eq (tgt := 74) hx hb dX1_adopt_39 (by decide) (fun c_39 => ?_) (fun c_39 => ?_)
            · refine lv_iconst (v := 0) hx hb dX1_adopt_74 (by decide) ?_
              refine lv_istore (lv' := [(4, .int 0), (0, .ref k0), (1, .int (nI P)), (2, .int (nI Q9)), (3, .int z)]) hx hb dX1_adopt_75 hl (by decide) rfl (fun ls hl => ?_)
              refine lv_aload_n hx hb dX1_adopt_77 rfl (lv_at hl 1 rfl) ?_
              refine lv_iload hx hb dX1_adopt_78 (lv_at hl 0 rfl) ?_
              refine lv_if_eq (tgt := 87) hx hb dX1_adopt_80 (by decide) (fun c_80 => ?_) (fun c_80 => ?_)
              · refine lv_iconst (v := 1) hx hb dX1_adopt_87 (by decide) ?_
                refine va_put (D := (dC, dI)) (ci := 1) (v := .int 1) (ty := .int) (C := RX1) (T := TX1) (N := 13) hx hb hts (by decide +kernel) tyX1 tyX1_ok nmX1 hown hK hP hD hS 0 rfl rfl 12 (by decide) (hts (.fieldLink RX1 13 "DomainKeysModel" "thrown" "I") (by decide +kernel)) (fun _ h9 => h9) rfl (by decide +kernel) rfl rfl (Nat.le_of_ble_eq_true rfl) dX1_adopt_88 (fun H locs hP hD hS => ?_)
                have hP : va_P (dC, dI) vwCl [(k0, .inr (1, [.int mp, .int mq, .int mo, .int hc, .long ms9, .int kp, .int kq, .int kn, .int pp, .int qq, .int gg, .ref k1, .int 1])), (k1, .inl (b1, 8, .inl sk))] H := hP
                have hD : va_D A [(k0, .inr (1, [.int mp, .int mq, .int mo, .int hc, .long ms9, .int kp, .int kq, .int kn, .int pp, .int qq, .int gg, .ref k1, .int 1])), (k1, .inl (b1, 8, .inl sk))] := hD
                refine lv_iload hx hb dX1_adopt_91 (lv_at hl 0 rfl) ?_
                refine lv_if_eq (tgt := 135) hx hb dX1_adopt_93 (by decide) (fun c_93 => ?_) (fun c_93 => ?_)
                · exact W.vret hx hb hr (fun t ht hW => ⟨⟨(mp, mq, mo, hc, ms9, kp, kq, kn, pp, qq, gg, 1, sk), rfl, Or.inr ⟨hno, rfl⟩, by rw [ht]; exact hP, va_K.moved hW.alike hK, hD⟩, hS.F ht⟩) hS.2.2 dX1_adopt_135
                · exact absurd rfl c_93
              · exact absurd rfl c_80
            · exact absurd rfl c_39
          · obtain ⟨G, hG9, rfl⟩ := nI_of (x := z) (fun q => c_20 (Int32.lt_trans q (by decide)))
            have hG2 : 2 ≤ G := by
              rcases Nat.lt_or_ge G 2 with q | q
              · exact absurd ((nI_ltI (a := G) (b := 2) hG9 (by decide)).mpr q) c_20
              · exact q
            have hGP : G ≤ P - 1 := by
              rcases Nat.lt_or_ge (P - 1) G with q | q
              · exact absurd ((nI_ltI (a := P - 1) (b := G) (by omega) hG9).mpr q) c_27
              · exact q
            have hGl : G ^ Q9 % P < P := Nat.mod_lt _ (by omega)
            refine lv_iconst (v := 1) hx hb dX1_adopt_30 (by decide) ?_
            refine lv_goto (tgt := 35) hx hb dX1_adopt_31 (by decide) ?_
            refine lv_istore (lv' := [(4, .int 1), (0, .ref k0), (1, .int (nI P)), (2, .int (nI Q9)), (3, .int (nI G))]) hx hb dX1_adopt_35 hl (by decide) rfl (fun ls hl => ?_)
            refine lv_iload hx hb dX1_adopt_37 (lv_at hl 0 rfl) ?_
            refine lv_if_eq (tgt := 74) hx hb dX1_adopt_39 (by decide) (fun c_39 => ?_) (fun c_39 => ?_)
            · exact absurd c_39 (by decide)
            · refine lv_iload_n hx hb dX1_adopt_42 rfl (lv_at hl 2 rfl) ?_
              refine vp_callSi (W.runS (As := [.int (nI P)]) (rest := []) ⟨hx, hb, hml, hown, hts⟩ (dk_m_prime l P hP9) (va_cwS 1 hts gX1_adopt_X1_prime rfl rfl rfl (by decide +kernel) ⟨Nat.le_of_ble_eq_true rfl, Nat.le_of_ble_eq_true rfl⟩) ⟨fun _ _ _ _ q9 => q9, fun U hU hW => ⟨rfl, trivial⟩⟩ rfl rfl hl.1 rfl (lv_room (Nat.le_of_ble_eq_true rfl)) dX1_adopt_43 ⟨Nat.le_of_ble_eq_true rfl, Nat.le_of_ble_eq_true rfl⟩) (fun r_43 hr_43 => ?_)
              refine lv_if_eq (tgt := 74) hx hb dX1_adopt_46 (by decide) (fun c_46 => ?_) (fun c_46 => ?_)
              · have hno : ¬ dk_domI (nI P) (nI Q9) (nI G) := fun ⟨P1, Q1, G1, z1, z2, e1, e2, e3, d1, d2, d3, d4, d5, d6, d7⟩ => by
                  have f1 : P1 = P := (nI_eq z1 hP9).mp e1.symm
                  have f2 : Q1 = Q9 := (nI_eq z2 hQ9).mp e2.symm
                  subst f1 f2
                  rcases hr_43 with ⟨q1, -⟩ | ⟨-, q1⟩
                  · rw [q1] at c_46; exact absurd c_46 (by decide)
                  · exact q1 d1
                refine lv_iconst (v := 0) hx hb dX1_adopt_74 (by decide) ?_
                refine lv_istore (lv' := [(4, .int 0), (0, .ref k0), (1, .int (nI P)), (2, .int (nI Q9)), (3, .int (nI G))]) hx hb dX1_adopt_75 hl (by decide) rfl (fun ls hl => ?_)
                refine lv_aload_n hx hb dX1_adopt_77 rfl (lv_at hl 1 rfl) ?_
                refine lv_iload hx hb dX1_adopt_78 (lv_at hl 0 rfl) ?_
                refine lv_if_eq (tgt := 87) hx hb dX1_adopt_80 (by decide) (fun c_80 => ?_) (fun c_80 => ?_)
                · refine lv_iconst (v := 1) hx hb dX1_adopt_87 (by decide) ?_
                  refine va_put (D := (dC, dI)) (ci := 1) (v := .int 1) (ty := .int) (C := RX1) (T := TX1) (N := 13) hx hb hts (by decide +kernel) tyX1 tyX1_ok nmX1 hown hK hP hD hS 0 rfl rfl 12 (by decide) (hts (.fieldLink RX1 13 "DomainKeysModel" "thrown" "I") (by decide +kernel)) (fun _ h9 => h9) rfl (by decide +kernel) rfl rfl (Nat.le_of_ble_eq_true rfl) dX1_adopt_88 (fun H locs hP hD hS => ?_)
                  have hP : va_P (dC, dI) vwCl [(k0, .inr (1, [.int mp, .int mq, .int mo, .int hc, .long ms9, .int kp, .int kq, .int kn, .int pp, .int qq, .int gg, .ref k1, .int 1])), (k1, .inl (b1, 8, .inl sk))] H := hP
                  have hD : va_D A [(k0, .inr (1, [.int mp, .int mq, .int mo, .int hc, .long ms9, .int kp, .int kq, .int kn, .int pp, .int qq, .int gg, .ref k1, .int 1])), (k1, .inl (b1, 8, .inl sk))] := hD
                  refine lv_iload hx hb dX1_adopt_91 (lv_at hl 0 rfl) ?_
                  refine lv_if_eq (tgt := 135) hx hb dX1_adopt_93 (by decide) (fun c_93 => ?_) (fun c_93 => ?_)
                  · exact W.vret hx hb hr (fun t ht hW => ⟨⟨(mp, mq, mo, hc, ms9, kp, kq, kn, pp, qq, gg, 1, sk), rfl, Or.inr ⟨hno, rfl⟩, by rw [ht]; exact hP, va_K.moved hW.alike hK, hD⟩, hS.F ht⟩) hS.2.2 dX1_adopt_135
                  · exact absurd rfl c_93
                · exact absurd rfl c_80
              · have h46 : dk_pr P := by
                  rcases hr_43 with ⟨-, q1⟩ | ⟨q1, -⟩
                  · exact q1
                  · exact absurd q1 c_46
                refine lv_iload_n hx hb dX1_adopt_49 rfl (lv_at hl 3 rfl) ?_
                refine vp_callSi (W.runS (As := [.int (nI Q9)]) (rest := []) ⟨hx, hb, hml, hown, hts⟩ (dk_m_prime l Q9 hQ9) (va_cwS 1 hts gX1_adopt_X1_prime rfl rfl rfl (by decide +kernel) ⟨Nat.le_of_ble_eq_true rfl, Nat.le_of_ble_eq_true rfl⟩) ⟨fun _ _ _ _ q9 => q9, fun U hU hW => ⟨rfl, trivial⟩⟩ rfl rfl hl.1 rfl (lv_room (Nat.le_of_ble_eq_true rfl)) dX1_adopt_50 ⟨Nat.le_of_ble_eq_true rfl, Nat.le_of_ble_eq_true rfl⟩) (fun r_50 hr_50 => ?_)
                refine lv_if_eq (tgt := 74) hx hb dX1_adopt_53 (by decide) (fun c_53 => ?_) (fun c_53 => ?_)
                · have hno : ¬ dk_domI (nI P) (nI Q9) (nI G) := fun ⟨P1, Q1, G1, z1, z2, e1, e2, e3, d1, d2, d3, d4, d5, d6, d7⟩ => by
                    have f1 : P1 = P := (nI_eq z1 hP9).mp e1.symm
                    have f2 : Q1 = Q9 := (nI_eq z2 hQ9).mp e2.symm
                    subst f1 f2
                    rcases hr_50 with ⟨q1, -⟩ | ⟨-, q1⟩
                    · rw [q1] at c_53; exact absurd c_53 (by decide)
                    · exact q1 d2
                  refine lv_iconst (v := 0) hx hb dX1_adopt_74 (by decide) ?_
                  refine lv_istore (lv' := [(4, .int 0), (0, .ref k0), (1, .int (nI P)), (2, .int (nI Q9)), (3, .int (nI G))]) hx hb dX1_adopt_75 hl (by decide) rfl (fun ls hl => ?_)
                  refine lv_aload_n hx hb dX1_adopt_77 rfl (lv_at hl 1 rfl) ?_
                  refine lv_iload hx hb dX1_adopt_78 (lv_at hl 0 rfl) ?_
                  refine lv_if_eq (tgt := 87) hx hb dX1_adopt_80 (by decide) (fun c_80 => ?_) (fun c_80 => ?_)
                  · refine lv_iconst (v := 1) hx hb dX1_adopt_87 (by decide) ?_
                    refine va_put (D := (dC, dI)) (ci := 1) (v := .int 1) (ty := .int) (C := RX1) (T := TX1) (N := 13) hx hb hts (by decide +kernel) tyX1 tyX1_ok nmX1 hown hK hP hD hS 0 rfl rfl 12 (by decide) (hts (.fieldLink RX1 13 "DomainKeysModel" "thrown" "I") (by decide +kernel)) (fun _ h9 => h9) rfl (by decide +kernel) rfl rfl (Nat.le_of_ble_eq_true rfl) dX1_adopt_88 (fun H locs hP hD hS => ?_)
                    have hP : va_P (dC, dI) vwCl [(k0, .inr (1, [.int mp, .int mq, .int mo, .int hc, .long ms9, .int kp, .int kq, .int kn, .int pp, .int qq, .int gg, .ref k1, .int 1])), (k1, .inl (b1, 8, .inl sk))] H := hP
                    have hD : va_D A [(k0, .inr (1, [.int mp, .int mq, .int mo, .int hc, .long ms9, .int kp, .int kq, .int kn, .int pp, .int qq, .int gg, .ref k1, .int 1])), (k1, .inl (b1, 8, .inl sk))] := hD
                    refine lv_iload hx hb dX1_adopt_91 (lv_at hl 0 rfl) ?_
                    refine lv_if_eq (tgt := 135) hx hb dX1_adopt_93 (by decide) (fun c_93 => ?_) (fun c_93 => ?_)
                    · exact W.vret hx hb hr (fun t ht hW => ⟨⟨(mp, mq, mo, hc, ms9, kp, kq, kn, pp, qq, gg, 1, sk), rfl, Or.inr ⟨hno, rfl⟩, by rw [ht]; exact hP, va_K.moved hW.alike hK, hD⟩, hS.F ht⟩) hS.2.2 dX1_adopt_135
                    · exact absurd rfl c_93
                  · exact absurd rfl c_80
                · have h53 : dk_pr Q9 := by
                    rcases hr_50 with ⟨-, q1⟩ | ⟨q1, -⟩
                    · exact q1
                    · exact absurd q1 c_53
                  refine lv_iload_n hx hb dX1_adopt_56 rfl (lv_at hl 4 rfl) ?_
                  refine lv_i2l hx hb dX1_adopt_57 rfl ?_
                  refine lv_topl (fun v_57 ev_57 => ?_)
                  have ev_57 : v_57 = lN G := ev_57.trans (nI_l hG9)
                  subst ev_57
                  refine lv_iload_n hx hb dX1_adopt_58 rfl (lv_at hl 3 rfl) ?_
                  refine lv_i2l hx hb dX1_adopt_59 rfl ?_
                  refine lv_topl (fun v_59 ev_59 => ?_)
                  have ev_59 : v_59 = lN Q9 := ev_59.trans (nI_l hQ9)
                  subst ev_59
                  refine lv_iload_n hx hb dX1_adopt_60 rfl (lv_at hl 2 rfl) ?_
                  refine lv_i2l hx hb dX1_adopt_61 rfl ?_
                  refine lv_topl (fun v_61 ev_61 => ?_)
                  have ev_61 : v_61 = lN P := ev_61.trans (nI_l hP9)
                  subst ev_61
                  refine vp_callSl (W.runS (As := [.long (lN G), .long (lN Q9), .long (lN P)]) (rest := []) ⟨hx, hb, hml, hown, hts⟩ (dk_m_power l G Q9 P hG9 hQ9 (by omega) hP9) (va_cwS 3 hts gX1_adopt_X1_power rfl rfl rfl (by decide +kernel) ⟨Nat.le_of_ble_eq_true rfl, Nat.le_of_ble_eq_true rfl⟩) ⟨fun _ _ _ _ q9 => q9, fun U hU hW => ⟨rfl, trivial⟩⟩ rfl rfl hl.1 rfl (lv_room (Nat.le_of_ble_eq_true rfl)) dX1_adopt_62 ⟨Nat.le_of_ble_eq_true rfl, Nat.le_of_ble_eq_true rfl⟩) (fun r_62 hr_62 => ?_)
                  subst hr_62
                  refine lv_lconst (v := 1) hx hb dX1_adopt_65 (by decide) ?_
                  refine W.lcmp hx hb dX1_adopt_66 ?_
                  refine lv_if_ne (tgt := 74) hx hb dX1_adopt_67 (by decide) (fun c_67 => ?_) (fun c_67 => ?_)
                  · have hno : ¬ dk_domI (nI P) (nI Q9) (nI G) := fun ⟨P1, Q1, G1, z1, z2, e1, e2, e3, d1, d2, d3, d4, d5, d6, d7⟩ => by
                      have f1 : P1 = P := (nI_eq z1 hP9).mp e1.symm
                      have f2 : Q1 = Q9 := (nI_eq z2 hQ9).mp e2.symm
                      subst f1 f2
                      have f3 : G1 = G := (nI_eq (by omega) hG9).mp e3.symm
                      subst f3
                      exact c_67 ((lg_cmp_eq _ _).mpr (by rw [d7]; rfl))
                    refine lv_iconst (v := 0) hx hb dX1_adopt_74 (by decide) ?_
                    refine lv_istore (lv' := [(4, .int 0), (0, .ref k0), (1, .int (nI P)), (2, .int (nI Q9)), (3, .int (nI G))]) hx hb dX1_adopt_75 hl (by decide) rfl (fun ls hl => ?_)
                    refine lv_aload_n hx hb dX1_adopt_77 rfl (lv_at hl 1 rfl) ?_
                    refine lv_iload hx hb dX1_adopt_78 (lv_at hl 0 rfl) ?_
                    refine lv_if_eq (tgt := 87) hx hb dX1_adopt_80 (by decide) (fun c_80 => ?_) (fun c_80 => ?_)
                    · refine lv_iconst (v := 1) hx hb dX1_adopt_87 (by decide) ?_
                      refine va_put (D := (dC, dI)) (ci := 1) (v := .int 1) (ty := .int) (C := RX1) (T := TX1) (N := 13) hx hb hts (by decide +kernel) tyX1 tyX1_ok nmX1 hown hK hP hD hS 0 rfl rfl 12 (by decide) (hts (.fieldLink RX1 13 "DomainKeysModel" "thrown" "I") (by decide +kernel)) (fun _ h9 => h9) rfl (by decide +kernel) rfl rfl (Nat.le_of_ble_eq_true rfl) dX1_adopt_88 (fun H locs hP hD hS => ?_)
                      have hP : va_P (dC, dI) vwCl [(k0, .inr (1, [.int mp, .int mq, .int mo, .int hc, .long ms9, .int kp, .int kq, .int kn, .int pp, .int qq, .int gg, .ref k1, .int 1])), (k1, .inl (b1, 8, .inl sk))] H := hP
                      have hD : va_D A [(k0, .inr (1, [.int mp, .int mq, .int mo, .int hc, .long ms9, .int kp, .int kq, .int kn, .int pp, .int qq, .int gg, .ref k1, .int 1])), (k1, .inl (b1, 8, .inl sk))] := hD
                      refine lv_iload hx hb dX1_adopt_91 (lv_at hl 0 rfl) ?_
                      refine lv_if_eq (tgt := 135) hx hb dX1_adopt_93 (by decide) (fun c_93 => ?_) (fun c_93 => ?_)
                      · exact W.vret hx hb hr (fun t ht hW => ⟨⟨(mp, mq, mo, hc, ms9, kp, kq, kn, pp, qq, gg, 1, sk), rfl, Or.inr ⟨hno, rfl⟩, by rw [ht]; exact hP, va_K.moved hW.alike hK, hD⟩, hS.F ht⟩) hS.2.2 dX1_adopt_135
                      · exact absurd rfl c_93
                    · exact absurd rfl c_80
                  · have hyes : dk_domI (nI P) (nI Q9) (nI G) := ⟨P, Q9, G, hP9, hQ9, rfl, rfl, rfl, h46, h53, hQ3, h15, hG2, by omega, (pk_lEQ (b := 1) (by omega) (by omega)).mp ((lg_cmp_eq _ _).mp c_67)⟩
                    refine lv_iconst (v := 1) hx hb dX1_adopt_70 (by decide) ?_
                    refine lv_goto (tgt := 75) hx hb dX1_adopt_71 (by decide) ?_
                    refine lv_istore (lv' := [(4, .int 1), (0, .ref k0), (1, .int (nI P)), (2, .int (nI Q9)), (3, .int (nI G))]) hx hb dX1_adopt_75 hl (by decide) rfl (fun ls hl => ?_)
                    refine lv_aload_n hx hb dX1_adopt_77 rfl (lv_at hl 1 rfl) ?_
                    refine lv_iload hx hb dX1_adopt_78 (lv_at hl 0 rfl) ?_
                    refine lv_if_eq (tgt := 87) hx hb dX1_adopt_80 (by decide) (fun c_80 => ?_) (fun c_80 => ?_)
                    · exact absurd c_80 (by decide)
                    · refine lv_iconst (v := 0) hx hb dX1_adopt_83 (by decide) ?_
                      refine lv_goto (tgt := 88) hx hb dX1_adopt_84 (by decide) ?_
                      refine va_put (D := (dC, dI)) (ci := 1) (v := .int 0) (ty := .int) (C := RX1) (T := TX1) (N := 13) hx hb hts (by decide +kernel) tyX1 tyX1_ok nmX1 hown hK hP hD hS 0 rfl rfl 12 (by decide) (hts (.fieldLink RX1 13 "DomainKeysModel" "thrown" "I") (by decide +kernel)) (fun _ h9 => h9) rfl (by decide +kernel) rfl rfl (Nat.le_of_ble_eq_true rfl) dX1_adopt_88 (fun H locs hP hD hS => ?_)
                      have hP : va_P (dC, dI) vwCl [(k0, .inr (1, [.int mp, .int mq, .int mo, .int hc, .long ms9, .int kp, .int kq, .int kn, .int pp, .int qq, .int gg, .ref k1, .int 0])), (k1, .inl (b1, 8, .inl sk))] H := hP
                      have hD : va_D A [(k0, .inr (1, [.int mp, .int mq, .int mo, .int hc, .long ms9, .int kp, .int kq, .int kn, .int pp, .int qq, .int gg, .ref k1, .int 0])), (k1, .inl (b1, 8, .inl sk))] := hD
                      refine lv_iload hx hb dX1_adopt_91 (lv_at hl 0 rfl) ?_
                      refine lv_if_eq (tgt := 135) hx hb dX1_adopt_93 (by decide) (fun c_93 => ?_) (fun c_93 => ?_)
                      · exact absurd c_93 (by decide)
                      · refine lv_aload_n hx hb dX1_adopt_96 rfl (lv_at hl 1 rfl) ?_
                        refine lv_iload_n hx hb dX1_adopt_97 rfl (lv_at hl 2 rfl) ?_
                        refine va_put (D := (dC, dI)) (ci := 1) (v := .int (nI P)) (ty := .int) (C := RX1) (T := TX1) (N := 13) hx hb hts (by decide +kernel) tyX1 tyX1_ok nmX1 hown hK hP hD hS 0 rfl rfl 8 (by decide) (hts (.fieldLink RX1 73 "DomainKeysModel" "p" "I") (by decide +kernel)) (fun _ h9 => h9) rfl (by decide +kernel) rfl rfl (Nat.le_of_ble_eq_true rfl) dX1_adopt_98 (fun H locs hP hD hS => ?_)
                        have hP : va_P (dC, dI) vwCl [(k0, .inr (1, [.int mp, .int mq, .int mo, .int hc, .long ms9, .int kp, .int kq, .int kn, .int (nI P), .int qq, .int gg, .ref k1, .int 0])), (k1, .inl (b1, 8, .inl sk))] H := hP
                        have hD : va_D A [(k0, .inr (1, [.int mp, .int mq, .int mo, .int hc, .long ms9, .int kp, .int kq, .int kn, .int (nI P), .int qq, .int gg, .ref k1, .int 0])), (k1, .inl (b1, 8, .inl sk))] := hD
                        refine lv_aload_n hx hb dX1_adopt_101 rfl (lv_at hl 1 rfl) ?_
                        refine lv_iload_n hx hb dX1_adopt_102 rfl (lv_at hl 3 rfl) ?_
                        refine va_put (D := (dC, dI)) (ci := 1) (v := .int (nI Q9)) (ty := .int) (C := RX1) (T := TX1) (N := 13) hx hb hts (by decide +kernel) tyX1 tyX1_ok nmX1 hown hK hP hD hS 0 rfl rfl 9 (by decide) (hts (.fieldLink RX1 76 "DomainKeysModel" "q" "I") (by decide +kernel)) (fun _ h9 => h9) rfl (by decide +kernel) rfl rfl (Nat.le_of_ble_eq_true rfl) dX1_adopt_103 (fun H locs hP hD hS => ?_)
                        have hP : va_P (dC, dI) vwCl [(k0, .inr (1, [.int mp, .int mq, .int mo, .int hc, .long ms9, .int kp, .int kq, .int kn, .int (nI P), .int (nI Q9), .int gg, .ref k1, .int 0])), (k1, .inl (b1, 8, .inl sk))] H := hP
                        have hD : va_D A [(k0, .inr (1, [.int mp, .int mq, .int mo, .int hc, .long ms9, .int kp, .int kq, .int kn, .int (nI P), .int (nI Q9), .int gg, .ref k1, .int 0])), (k1, .inl (b1, 8, .inl sk))] := hD
                        refine lv_aload_n hx hb dX1_adopt_106 rfl (lv_at hl 1 rfl) ?_
                        refine lv_iload_n hx hb dX1_adopt_107 rfl (lv_at hl 4 rfl) ?_
                        refine va_put (D := (dC, dI)) (ci := 1) (v := .int (nI G)) (ty := .int) (C := RX1) (T := TX1) (N := 13) hx hb hts (by decide +kernel) tyX1 tyX1_ok nmX1 hown hK hP hD hS 0 rfl rfl 10 (by decide) (hts (.fieldLink RX1 79 "DomainKeysModel" "g" "I") (by decide +kernel)) (fun _ h9 => h9) rfl (by decide +kernel) rfl rfl (Nat.le_of_ble_eq_true rfl) dX1_adopt_108 (fun H locs hP hD hS => ?_)
                        have hP : va_P (dC, dI) vwCl [(k0, .inr (1, [.int mp, .int mq, .int mo, .int hc, .long ms9, .int kp, .int kq, .int kn, .int (nI P), .int (nI Q9), .int (nI G), .ref k1, .int 0])), (k1, .inl (b1, 8, .inl sk))] H := hP
                        have hD : va_D A [(k0, .inr (1, [.int mp, .int mq, .int mo, .int hc, .long ms9, .int kp, .int kq, .int kn, .int (nI P), .int (nI Q9), .int (nI G), .ref k1, .int 0])), (k1, .inl (b1, 8, .inl sk))] := hD
                        refine lv_iconst (v := 0) hx hb dX1_adopt_111 (by decide) ?_
                        refine lv_istore (lv' := [(5, .int 0), (4, .int 1), (0, .ref k0), (1, .int (nI P)), (2, .int (nI Q9)), (3, .int (nI G))]) hx hb dX1_adopt_112 hl (by decide) rfl (fun ls hl => ?_)
                        refine dk_madopt_loop dC dI k0 k1 b1 mp mq mo hc ms9 kp kq kn (nI P) (nI Q9) (nI G) 0 sk hx hb hml hown hts hA hK (fun H locs ls hP hD hS => ?_) 9 0 H locs ls (by omega) (by omega) (by rw [dk_clr_0]; exact hP) (by rw [dk_clr_0]; exact hD) hS (lv_sub hl [2, 0] rfl)
                        exact W.vret hx hb hr (fun t ht hW => ⟨⟨(mp, mq, mo, hc, ms9, kp, kq, kn, nI P, nI Q9, nI G, 0, dk_clr 8 sk), rfl, Or.inl ⟨hyes, rfl⟩, by rw [ht]; exact hP, va_K.moved hW.alike hK, hD⟩, hS.F ht⟩) hS.2.2 dX1_adopt_135

set_option maxHeartbeats 4000000 in
set_option maxRecDepth 100000 in
theorem dk_m_key (l : Launch) (dC : Nat → ClassId) (dI : Nat → Nat → Nat) (k0 k1 : Nat) (b1 : ClassId) (mp mq mo hc : Int32) (ms9 : Int64) (kp kq kn pp qq gg th : Int32) (sk : Nat → Int32) (x y : Int32) (hI : dk_ID pp qq gg) (sz : Nat) : Met l yX1_key wsX1_key ({ frames := 1, cells := 0, slots := 0, locals := 30 }) (va_Pc [.ref k0, .int x, .int y] (fun U => U.heap.size = sz ∧ va_P (dC, dI) vwCl [(k0, .inr (1, [.int mp, .int mq, .int mo, .int hc, .long ms9, .int kp, .int kq, .int kn, .int pp, .int qq, .int gg, .ref k1, .int th])), (k1, .inl (b1, 8, .inl sk))] U.heap ∧ va_K (dC, dI) vwCl [(b1, .int)] U ∧ va_D (fun _ => True) [(k0, .inr (1, [.int mp, .int mq, .int mo, .int hc, .long ms9, .int kp, .int kq, .int kn, .int pp, .int qq, .int gg, .ref k1, .int th])), (k1, .inl (b1, 8, .inl sk))])) (va_Qi (fun (r9 : Int32) (u9 : dk_T) => ∃ th2 : Int32, dk_fkey pp qq gg x y = (th2, r9) ∧ ((th2 = 0 ∧ u9 = (mp, mq, mo, hc, ms9, kp, kq, kn, pp, qq, gg, 0, upd sk (dk_n x) y)) ∨ (¬ th2 = 0 ∧ u9 = (mp, mq, mo, hc, ms9, kp, kq, kn, pp, qq, gg, th2, sk)))) (dk_C dC dI (va_A [(k0, .inr (1, [.int mp, .int mq, .int mo, .int hc, .long ms9, .int kp, .int kq, .int kn, .int pp, .int qq, .int gg, .ref k1, .int th])), (k1, .inl (b1, 8, .inl sk))] sz) k0 k1 b1) (va_A [(k0, .inr (1, [.int mp, .int mq, .int mo, .int hc, .long ms9, .int kp, .int kq, .int kn, .int pp, .int qq, .int gg, .ref k1, .int th])), (k1, .inl (b1, 8, .inl sk))] sz)) 0 0 (va_A [(k0, .inr (1, [.int mp, .int mq, .int mo, .int hc, .long ms9, .int kp, .int kq, .int kn, .int pp, .int qq, .int gg, .ref k1, .int th])), (k1, .inl (b1, 8, .inl sk))] sz) := by
  refine Met.ofW (cc := cX1_key) (maxL := 3) (ret := (some .int)) (by decide) rfl ?_
  intro p e s m args below meth c s₁ B hml hv
  obtain ⟨rfl, hsz, hP, hK, hD0⟩ := hv
  have hx := B.exec
  have hb := B.bytes
  have hr := B.returns
  have hts := atoms_spec (ws := wsX1_key) B.pre
  have hown : s.vm.findClass RX1 = some m.cls := findClass_of_methodNamed B.named
  have hlocks := B.notSynchronized
  subst hsz
  have hD := hD0.self (sz := s.heap.size)
  generalize hAe : va_A [(k0, .inr (1, [.int mp, .int mq, .int mo, .int hc, .long ms9, .int kp, .int kq, .int kn, .int pp, .int qq, .int gg, .ref k1, .int th])), (k1, .inl (b1, 8, .inl sk))] s.heap.size = A at hD ⊢
  have hA : ∀ q : Nat, s.heap.size ≤ q → A q := fun q h => by rw [← hAe]; exact Or.inr h
  have hS : va_S A s.heap s.heap [] := va_S.rf
  have hl := lv_entry ([.ref k0, .int x, .int y]) (n := 3) (Nat.le_of_ble_eq_true rfl)
  rw [lg_entry_eq]
  generalize (lg_sl ([.ref k0, .int x, .int y]) ++ List.replicate (3 - (lg_sl ([.ref k0, .int x, .int y])).length) Slot.unset).toArray = ls at hl ⊢
  have hl : lv_has ls 3 [(0, .ref k0), (1, .int x), (2, .int y)] := hl
  refine lv_aload_n hx hb dX1_key_0 rfl (lv_at hl 0 rfl) ?_
  refine lv_aload_n hx hb dX1_key_1 rfl (lv_at hl 0 rfl) ?_
  refine va_get (D := (dC, dI)) (ci := 1) (v := .int pp) (C := RX1) (T := TX1) (N := 13) hx hb hts (by decide +kernel) hown hK hP 0 rfl rfl 8 (by decide) (hts (.fieldLink RX1 73 "DomainKeysModel" "p" "I") (by decide +kernel)) (fun _ h9 => h9) rfl dX1_key_2 ?_
  refine lv_if_ne (tgt := 12) hx hb dX1_key_5 (by decide) (fun c_5 => ?_) (fun c_5 => ?_)
  · obtain ⟨P, Q9, G, hP9, hQ9, hdom, rfl, rfl, rfl⟩ := hI.resolve_left (fun q => c_5 q.1)
    obtain ⟨hs1, hs2, hs3, hs4, hs5, hs6⟩ := dk_dom_sz hP9 hdom
    refine lv_iload_n hx hb dX1_key_12 rfl (lv_at hl 1 rfl) ?_
    refine lv_if_lt (tgt := 22) hx hb dX1_key_13 (by decide) (fun c_13 => ?_) (fun c_13 => ?_)
    · have hns : ¬ dk_sl x := fun q => dk_not_lt.mpr q.1 c_13
      refine lv_iconst (v := 2) hx hb dX1_key_22 (by decide) ?_
      refine lv_goto (tgt := 46) hx hb dX1_key_23 (by decide) ?_
      refine va_put (D := (dC, dI)) (ci := 1) (v := .int 2) (ty := .int) (C := RX1) (T := TX1) (N := 13) hx hb hts (by decide +kernel) tyX1 tyX1_ok nmX1 hown hK hP hD hS 0 rfl rfl 12 (by decide) (hts (.fieldLink RX1 13 "DomainKeysModel" "thrown" "I") (by decide +kernel)) (fun _ h9 => h9) rfl (by decide +kernel) rfl rfl (Nat.le_of_ble_eq_true rfl) dX1_key_46 (fun H locs hP hD hS => ?_)
      have hP : va_P (dC, dI) vwCl [(k0, .inr (1, [.int mp, .int mq, .int mo, .int hc, .long ms9, .int kp, .int kq, .int kn, .int (nI P), .int (nI Q9), .int (nI G), .ref k1, .int 2])), (k1, .inl (b1, 8, .inl sk))] H := hP
      have hD : va_D A [(k0, .inr (1, [.int mp, .int mq, .int mo, .int hc, .long ms9, .int kp, .int kq, .int kn, .int (nI P), .int (nI Q9), .int (nI G), .ref k1, .int 2])), (k1, .inl (b1, 8, .inl sk))] := hD
      refine lv_aload_n hx hb dX1_key_49 rfl (lv_at hl 0 rfl) ?_
      refine va_get (D := (dC, dI)) (ci := 1) (v := .int 2) (C := RX1) (T := TX1) (N := 13) hx hb hts (by decide +kernel) hown hK hP 0 rfl rfl 12 (by decide) (hts (.fieldLink RX1 13 "DomainKeysModel" "thrown" "I") (by decide +kernel)) (fun _ h9 => h9) rfl dX1_key_50 ?_
      refine lv_if_eq (tgt := 58) hx hb dX1_key_53 (by decide) (fun c_53 => ?_) (fun c_53 => ?_)
      · exact absurd c_53 (by decide)
      · refine lv_iconst (v := 0) hx hb dX1_key_56 (by decide) ?_
        exact W.iret (v := 0) hx hb hr (fun t ht hW => ⟨⟨0, (mp, mq, mo, hc, ms9, kp, kq, kn, nI P, nI Q9, nI G, 2, sk), rfl, ⟨2, by rw [dk_fkey, if_neg c_5, if_pos hns], Or.inr ⟨by decide, rfl⟩⟩, by rw [ht]; exact hP, va_K.moved hW.alike hK, hD⟩, hS.F ht⟩) hS.2.2 dX1_key_57
    · refine lv_iload_n hx hb dX1_key_16 rfl (lv_at hl 1 rfl) ?_
      refine lv_bipush (v := 7) hx hb dX1_key_17 (by decide) ?_
      refine lv_icmp_le (tgt := 26) hx hb dX1_key_19 (by decide) (fun c_19 => ?_) (fun c_19 => ?_)
      · obtain ⟨j, hj, rfl⟩ : ∃ j : Nat, j < 8 ∧ x = nI j := by
          rcases pk_ix x (n := 8) (by decide) with q | q | q
          · exact absurd q c_13
          · exact absurd (Int32.lt_of_lt_of_le (show (7 : Int32) < nI 8 by decide) q) (dk_not_lt.mpr c_19)
          · exact q
        have hsl : dk_sl (nI j) := dk_sl_of.mpr ⟨j, hj, rfl⟩
        refine lv_iload_n hx hb dX1_key_26 rfl (lv_at hl 2 rfl) ?_
        refine lv_iconst (v := 1) hx hb dX1_key_27 (by decide) ?_
        refine lv_icmp_lt (tgt := 41) hx hb dX1_key_28 (by decide) (fun c_28 => ?_) (fun c_28 => ?_)
        · have hnx : ¬ dk_ex y (nI Q9) := fun q => dk_not_lt.mpr q.1 c_28
          refine lv_iconst (v := 3) hx hb dX1_key_41 (by decide) ?_
          refine lv_goto (tgt := 46) hx hb dX1_key_42 (by decide) ?_
          refine va_put (D := (dC, dI)) (ci := 1) (v := .int 3) (ty := .int) (C := RX1) (T := TX1) (N := 13) hx hb hts (by decide +kernel) tyX1 tyX1_ok nmX1 hown hK hP hD hS 0 rfl rfl 12 (by decide) (hts (.fieldLink RX1 13 "DomainKeysModel" "thrown" "I") (by decide +kernel)) (fun _ h9 => h9) rfl (by decide +kernel) rfl rfl (Nat.le_of_ble_eq_true rfl) dX1_key_46 (fun H locs hP hD hS => ?_)
          have hP : va_P (dC, dI) vwCl [(k0, .inr (1, [.int mp, .int mq, .int mo, .int hc, .long ms9, .int kp, .int kq, .int kn, .int (nI P), .int (nI Q9), .int (nI G), .ref k1, .int 3])), (k1, .inl (b1, 8, .inl sk))] H := hP
          have hD : va_D A [(k0, .inr (1, [.int mp, .int mq, .int mo, .int hc, .long ms9, .int kp, .int kq, .int kn, .int (nI P), .int (nI Q9), .int (nI G), .ref k1, .int 3])), (k1, .inl (b1, 8, .inl sk))] := hD
          refine lv_aload_n hx hb dX1_key_49 rfl (lv_at hl 0 rfl) ?_
          refine va_get (D := (dC, dI)) (ci := 1) (v := .int 3) (C := RX1) (T := TX1) (N := 13) hx hb hts (by decide +kernel) hown hK hP 0 rfl rfl 12 (by decide) (hts (.fieldLink RX1 13 "DomainKeysModel" "thrown" "I") (by decide +kernel)) (fun _ h9 => h9) rfl dX1_key_50 ?_
          refine lv_if_eq (tgt := 58) hx hb dX1_key_53 (by decide) (fun c_53 => ?_) (fun c_53 => ?_)
          · exact absurd c_53 (by decide)
          · refine lv_iconst (v := 0) hx hb dX1_key_56 (by decide) ?_
            exact W.iret (v := 0) hx hb hr (fun t ht hW => ⟨⟨0, (mp, mq, mo, hc, ms9, kp, kq, kn, nI P, nI Q9, nI G, 3, sk), rfl, ⟨3, by rw [dk_fkey, if_neg c_5, if_neg (fun q => q hsl), if_pos hnx], Or.inr ⟨by decide, rfl⟩⟩, by rw [ht]; exact hP, va_K.moved hW.alike hK, hD⟩, hS.F ht⟩) hS.2.2 dX1_key_57
        · refine lv_iload_n hx hb dX1_key_31 rfl (lv_at hl 2 rfl) ?_
          refine lv_aload_n hx hb dX1_key_32 rfl (lv_at hl 0 rfl) ?_
          refine va_get (D := (dC, dI)) (ci := 1) (v := .int (nI Q9)) (C := RX1) (T := TX1) (N := 13) hx hb hts (by decide +kernel) hown hK hP 0 rfl rfl 9 (by decide) (hts (.fieldLink RX1 76 "DomainKeysModel" "q" "I") (by decide +kernel)) (fun _ h9 => h9) rfl dX1_key_33 ?_
          refine lv_iconst (v := 1) hx hb dX1_key_36 (by decide) ?_
          refine lv_isub hx hb dX1_key_37 ?_
          refine lv_icmp_le (tgt := 45) hx hb dX1_key_38 (by decide) (fun c_38 => ?_) (fun c_38 => ?_)
          · have hex : dk_ex y (nI Q9) := ⟨dk_not_lt.mp c_28, (dk_lt1 (by omega) hQ9).mp c_38⟩
            obtain ⟨y9, hy91, hy92, rfl⟩ := dk_ex_of hQ9 hex
            refine lv_iconst (v := 0) hx hb dX1_key_45 (by decide) ?_
            refine va_put (D := (dC, dI)) (ci := 1) (v := .int 0) (ty := .int) (C := RX1) (T := TX1) (N := 13) hx hb hts (by decide +kernel) tyX1 tyX1_ok nmX1 hown hK hP hD hS 0 rfl rfl 12 (by decide) (hts (.fieldLink RX1 13 "DomainKeysModel" "thrown" "I") (by decide +kernel)) (fun _ h9 => h9) rfl (by decide +kernel) rfl rfl (Nat.le_of_ble_eq_true rfl) dX1_key_46 (fun H locs hP hD hS => ?_)
            have hP : va_P (dC, dI) vwCl [(k0, .inr (1, [.int mp, .int mq, .int mo, .int hc, .long ms9, .int kp, .int kq, .int kn, .int (nI P), .int (nI Q9), .int (nI G), .ref k1, .int 0])), (k1, .inl (b1, 8, .inl sk))] H := hP
            have hD : va_D A [(k0, .inr (1, [.int mp, .int mq, .int mo, .int hc, .long ms9, .int kp, .int kq, .int kn, .int (nI P), .int (nI Q9), .int (nI G), .ref k1, .int 0])), (k1, .inl (b1, 8, .inl sk))] := hD
            refine lv_aload_n hx hb dX1_key_49 rfl (lv_at hl 0 rfl) ?_
            refine va_get (D := (dC, dI)) (ci := 1) (v := .int 0) (C := RX1) (T := TX1) (N := 13) hx hb hts (by decide +kernel) hown hK hP 0 rfl rfl 12 (by decide) (hts (.fieldLink RX1 13 "DomainKeysModel" "thrown" "I") (by decide +kernel)) (fun _ h9 => h9) rfl dX1_key_50 ?_
            refine lv_if_eq (tgt := 58) hx hb dX1_key_53 (by decide) (fun c_53 => ?_) (fun c_53 => ?_)
            · refine lv_aload_n hx hb dX1_key_58 rfl (lv_at hl 0 rfl) ?_
              refine va_get (D := (dC, dI)) (ci := 1) (v := .ref k1) (C := RX1) (T := TX1) (N := 13) hx hb hts (by decide +kernel) hown hK hP 0 rfl rfl 11 (by decide) (hts (.fieldLink RX1 7 "DomainKeysModel" "secrets" "[I") (by decide +kernel)) (fun _ h9 => h9) rfl dX1_key_59 ?_
              refine lv_iload_n hx hb dX1_key_62 rfl (lv_at hl 1 rfl) ?_
              refine lv_iload_n hx hb dX1_key_63 rfl (lv_at hl 2 rfl) ?_
              refine va_iast hx hb hK hP hD hS 1 0 rfl rfl (vp_in_nI hj (by decide)) dX1_key_64 (fun H locs hP hD hS => ?_)
              rw [(nI_clamp (Nat.lt_trans hj (by decide)))] at hP hD
              have hP : va_P (dC, dI) vwCl [(k0, .inr (1, [.int mp, .int mq, .int mo, .int hc, .long ms9, .int kp, .int kq, .int kn, .int (nI P), .int (nI Q9), .int (nI G), .ref k1, .int 0])), (k1, .inl (b1, 8, .inl (upd sk j (nI y9))))] H := hP
              have hD : va_D A [(k0, .inr (1, [.int mp, .int mq, .int mo, .int hc, .long ms9, .int kp, .int kq, .int kn, .int (nI P), .int (nI Q9), .int (nI G), .ref k1, .int 0])), (k1, .inl (b1, 8, .inl (upd sk j (nI y9))))] := hD
              refine lv_aload_n hx hb dX1_key_65 rfl (lv_at hl 0 rfl) ?_
              refine va_get (D := (dC, dI)) (ci := 1) (v := .int (nI G)) (C := RX1) (T := TX1) (N := 13) hx hb hts (by decide +kernel) hown hK hP 0 rfl rfl 10 (by decide) (hts (.fieldLink RX1 79 "DomainKeysModel" "g" "I") (by decide +kernel)) (fun _ h9 => h9) rfl dX1_key_66 ?_
              refine lv_i2l hx hb dX1_key_69 rfl ?_
              refine lv_topl (fun v_69 ev_69 => ?_)
              have ev_69 : v_69 = lN G := ev_69.trans (nI_l (by omega))
              subst ev_69
              refine lv_iload_n hx hb dX1_key_70 rfl (lv_at hl 2 rfl) ?_
              refine lv_i2l hx hb dX1_key_71 rfl ?_
              refine lv_topl (fun v_71 ev_71 => ?_)
              have ev_71 : v_71 = lN y9 := ev_71.trans (nI_l (by omega))
              subst ev_71
              refine lv_aload_n hx hb dX1_key_72 rfl (lv_at hl 0 rfl) ?_
              refine va_get (D := (dC, dI)) (ci := 1) (v := .int (nI P)) (C := RX1) (T := TX1) (N := 13) hx hb hts (by decide +kernel) hown hK hP 0 rfl rfl 8 (by decide) (hts (.fieldLink RX1 73 "DomainKeysModel" "p" "I") (by decide +kernel)) (fun _ h9 => h9) rfl dX1_key_73 ?_
              refine lv_i2l hx hb dX1_key_76 rfl ?_
              refine lv_topl (fun v_76 ev_76 => ?_)
              have ev_76 : v_76 = lN P := ev_76.trans (nI_l hP9)
              subst ev_76
              refine vp_callSl (W.runS (As := [.long (lN G), .long (lN y9), .long (lN P)]) (rest := []) ⟨hx, hb, hml, hown, hts⟩ (dk_m_power l G y9 P (by omega) (by omega) (by omega) hP9) (va_cwS 3 hts gX1_key_X1_power rfl rfl rfl (by decide +kernel) ⟨Nat.le_of_ble_eq_true rfl, Nat.le_of_ble_eq_true rfl⟩) ⟨fun _ _ _ _ q9 => q9, fun U hU hW => ⟨rfl, trivial⟩⟩ rfl rfl hl.1 rfl (lv_room (Nat.le_of_ble_eq_true rfl)) dX1_key_77 ⟨Nat.le_of_ble_eq_true rfl, Nat.le_of_ble_eq_true rfl⟩) (fun r_77 hr_77 => ?_)
              subst hr_77
              refine lv_l2i hx hb dX1_key_80 rfl ?_
              refine lv_topi (fun v_80 ev_80 => ?_)
              have ev_80 : v_80 = nI (G ^ y9 % P) := ev_80.trans (lN_i _)
              subst ev_80
              exact W.iret (v := (nI (G ^ y9 % P))) hx hb hr (fun t ht hW => ⟨⟨nI (G ^ y9 % P), (mp, mq, mo, hc, ms9, kp, kq, kn, nI P, nI Q9, nI G, 0, (upd sk j (nI y9))), rfl, ⟨0, by rw [dk_fkey, if_neg c_5, if_neg (fun q => q hsl), if_neg (fun q => q hex), dk_pw_nI (by omega) (by omega) hP9], Or.inl ⟨rfl, by rw [dk_n_nI (by omega)]⟩⟩, by rw [ht]; exact hP, va_K.moved hW.alike hK, hD⟩, hS.F ht⟩) hS.2.2 dX1_key_81
            · exact absurd rfl c_53
          · have hnx : ¬ dk_ex y (nI Q9) := fun q => c_38 ((dk_lt1 (by omega) hQ9).mpr q.2)
            refine lv_iconst (v := 3) hx hb dX1_key_41 (by decide) ?_
            refine lv_goto (tgt := 46) hx hb dX1_key_42 (by decide) ?_
            refine va_put (D := (dC, dI)) (ci := 1) (v := .int 3) (ty := .int) (C := RX1) (T := TX1) (N := 13) hx hb hts (by decide +kernel) tyX1 tyX1_ok nmX1 hown hK hP hD hS 0 rfl rfl 12 (by decide) (hts (.fieldLink RX1 13 "DomainKeysModel" "thrown" "I") (by decide +kernel)) (fun _ h9 => h9) rfl (by decide +kernel) rfl rfl (Nat.le_of_ble_eq_true rfl) dX1_key_46 (fun H locs hP hD hS => ?_)
            have hP : va_P (dC, dI) vwCl [(k0, .inr (1, [.int mp, .int mq, .int mo, .int hc, .long ms9, .int kp, .int kq, .int kn, .int (nI P), .int (nI Q9), .int (nI G), .ref k1, .int 3])), (k1, .inl (b1, 8, .inl sk))] H := hP
            have hD : va_D A [(k0, .inr (1, [.int mp, .int mq, .int mo, .int hc, .long ms9, .int kp, .int kq, .int kn, .int (nI P), .int (nI Q9), .int (nI G), .ref k1, .int 3])), (k1, .inl (b1, 8, .inl sk))] := hD
            refine lv_aload_n hx hb dX1_key_49 rfl (lv_at hl 0 rfl) ?_
            refine va_get (D := (dC, dI)) (ci := 1) (v := .int 3) (C := RX1) (T := TX1) (N := 13) hx hb hts (by decide +kernel) hown hK hP 0 rfl rfl 12 (by decide) (hts (.fieldLink RX1 13 "DomainKeysModel" "thrown" "I") (by decide +kernel)) (fun _ h9 => h9) rfl dX1_key_50 ?_
            refine lv_if_eq (tgt := 58) hx hb dX1_key_53 (by decide) (fun c_53 => ?_) (fun c_53 => ?_)
            · exact absurd c_53 (by decide)
            · refine lv_iconst (v := 0) hx hb dX1_key_56 (by decide) ?_
              exact W.iret (v := 0) hx hb hr (fun t ht hW => ⟨⟨0, (mp, mq, mo, hc, ms9, kp, kq, kn, nI P, nI Q9, nI G, 3, sk), rfl, ⟨3, by rw [dk_fkey, if_neg c_5, if_neg (fun q => q hsl), if_pos hnx], Or.inr ⟨by decide, rfl⟩⟩, by rw [ht]; exact hP, va_K.moved hW.alike hK, hD⟩, hS.F ht⟩) hS.2.2 dX1_key_57
      · have hns : ¬ dk_sl x := fun q => by
          obtain ⟨j, q1, rfl⟩ := dk_sl_of.mp q
          exact c_19 (nI_le (b := 7) (by omega) (by decide))
        refine lv_iconst (v := 2) hx hb dX1_key_22 (by decide) ?_
        refine lv_goto (tgt := 46) hx hb dX1_key_23 (by decide) ?_
        refine va_put (D := (dC, dI)) (ci := 1) (v := .int 2) (ty := .int) (C := RX1) (T := TX1) (N := 13) hx hb hts (by decide +kernel) tyX1 tyX1_ok nmX1 hown hK hP hD hS 0 rfl rfl 12 (by decide) (hts (.fieldLink RX1 13 "DomainKeysModel" "thrown" "I") (by decide +kernel)) (fun _ h9 => h9) rfl (by decide +kernel) rfl rfl (Nat.le_of_ble_eq_true rfl) dX1_key_46 (fun H locs hP hD hS => ?_)
        have hP : va_P (dC, dI) vwCl [(k0, .inr (1, [.int mp, .int mq, .int mo, .int hc, .long ms9, .int kp, .int kq, .int kn, .int (nI P), .int (nI Q9), .int (nI G), .ref k1, .int 2])), (k1, .inl (b1, 8, .inl sk))] H := hP
        have hD : va_D A [(k0, .inr (1, [.int mp, .int mq, .int mo, .int hc, .long ms9, .int kp, .int kq, .int kn, .int (nI P), .int (nI Q9), .int (nI G), .ref k1, .int 2])), (k1, .inl (b1, 8, .inl sk))] := hD
        refine lv_aload_n hx hb dX1_key_49 rfl (lv_at hl 0 rfl) ?_
        refine va_get (D := (dC, dI)) (ci := 1) (v := .int 2) (C := RX1) (T := TX1) (N := 13) hx hb hts (by decide +kernel) hown hK hP 0 rfl rfl 12 (by decide) (hts (.fieldLink RX1 13 "DomainKeysModel" "thrown" "I") (by decide +kernel)) (fun _ h9 => h9) rfl dX1_key_50 ?_
        refine lv_if_eq (tgt := 58) hx hb dX1_key_53 (by decide) (fun c_53 => ?_) (fun c_53 => ?_)
        · exact absurd c_53 (by decide)
        · refine lv_iconst (v := 0) hx hb dX1_key_56 (by decide) ?_
          exact W.iret (v := 0) hx hb hr (fun t ht hW => ⟨⟨0, (mp, mq, mo, hc, ms9, kp, kq, kn, nI P, nI Q9, nI G, 2, sk), rfl, ⟨2, by rw [dk_fkey, if_neg c_5, if_pos hns], Or.inr ⟨by decide, rfl⟩⟩, by rw [ht]; exact hP, va_K.moved hW.alike hK, hD⟩, hS.F ht⟩) hS.2.2 dX1_key_57
  · refine lv_iconst (v := 1) hx hb dX1_key_8 (by decide) ?_
    refine lv_goto (tgt := 46) hx hb dX1_key_9 (by decide) ?_
    refine va_put (D := (dC, dI)) (ci := 1) (v := .int 1) (ty := .int) (C := RX1) (T := TX1) (N := 13) hx hb hts (by decide +kernel) tyX1 tyX1_ok nmX1 hown hK hP hD hS 0 rfl rfl 12 (by decide) (hts (.fieldLink RX1 13 "DomainKeysModel" "thrown" "I") (by decide +kernel)) (fun _ h9 => h9) rfl (by decide +kernel) rfl rfl (Nat.le_of_ble_eq_true rfl) dX1_key_46 (fun H locs hP hD hS => ?_)
    have hP : va_P (dC, dI) vwCl [(k0, .inr (1, [.int mp, .int mq, .int mo, .int hc, .long ms9, .int kp, .int kq, .int kn, .int pp, .int qq, .int gg, .ref k1, .int 1])), (k1, .inl (b1, 8, .inl sk))] H := hP
    have hD : va_D A [(k0, .inr (1, [.int mp, .int mq, .int mo, .int hc, .long ms9, .int kp, .int kq, .int kn, .int pp, .int qq, .int gg, .ref k1, .int 1])), (k1, .inl (b1, 8, .inl sk))] := hD
    refine lv_aload_n hx hb dX1_key_49 rfl (lv_at hl 0 rfl) ?_
    refine va_get (D := (dC, dI)) (ci := 1) (v := .int 1) (C := RX1) (T := TX1) (N := 13) hx hb hts (by decide +kernel) hown hK hP 0 rfl rfl 12 (by decide) (hts (.fieldLink RX1 13 "DomainKeysModel" "thrown" "I") (by decide +kernel)) (fun _ h9 => h9) rfl dX1_key_50 ?_
    refine lv_if_eq (tgt := 58) hx hb dX1_key_53 (by decide) (fun c_53 => ?_) (fun c_53 => ?_)
    · exact absurd c_53 (by decide)
    · refine lv_iconst (v := 0) hx hb dX1_key_56 (by decide) ?_
      exact W.iret (v := 0) hx hb hr (fun t ht hW => ⟨⟨0, (mp, mq, mo, hc, ms9, kp, kq, kn, pp, qq, gg, 1, sk), rfl, ⟨1, by rw [dk_fkey, if_pos c_5], Or.inr ⟨by decide, rfl⟩⟩, by rw [ht]; exact hP, va_K.moved hW.alike hK, hD⟩, hS.F ht⟩) hS.2.2 dX1_key_57

set_option maxHeartbeats 4000000 in
set_option maxRecDepth 100000 in
theorem dk_m_publicNumber (l : Launch) (dC : Nat → ClassId) (dI : Nat → Nat → Nat) (k0 k1 : Nat) (b1 : ClassId) (mp mq mo hc : Int32) (ms9 : Int64) (kp kq kn pp qq gg th : Int32) (sk : Nat → Int32) (x : Int32) (hI : dk_ID pp qq gg) (hIK : ∀ j, j < 8 → sk j = 0 ∨ (¬ pp = 0 ∧ dk_ex (sk j) qq)) (sz : Nat) : Met l yX1_publicNumber wsX1_publicNumber ({ frames := 1, cells := 0, slots := 0, locals := 30 }) (va_Pc [.ref k0, .int x] (fun U => U.heap.size = sz ∧ va_P (dC, dI) vwCl [(k0, .inr (1, [.int mp, .int mq, .int mo, .int hc, .long ms9, .int kp, .int kq, .int kn, .int pp, .int qq, .int gg, .ref k1, .int th])), (k1, .inl (b1, 8, .inl sk))] U.heap ∧ va_K (dC, dI) vwCl [(b1, .int)] U ∧ va_D (fun _ => True) [(k0, .inr (1, [.int mp, .int mq, .int mo, .int hc, .long ms9, .int kp, .int kq, .int kn, .int pp, .int qq, .int gg, .ref k1, .int th])), (k1, .inl (b1, 8, .inl sk))])) (va_Qi (fun (r9 : Int32) (u9 : dk_T) => ∃ th2 : Int32, dk_fpub pp gg sk x = (th2, r9) ∧ u9 = (mp, mq, mo, hc, ms9, kp, kq, kn, pp, qq, gg, th2, sk)) (dk_C dC dI (va_A [(k0, .inr (1, [.int mp, .int mq, .int mo, .int hc, .long ms9, .int kp, .int kq, .int kn, .int pp, .int qq, .int gg, .ref k1, .int th])), (k1, .inl (b1, 8, .inl sk))] sz) k0 k1 b1) (va_A [(k0, .inr (1, [.int mp, .int mq, .int mo, .int hc, .long ms9, .int kp, .int kq, .int kn, .int pp, .int qq, .int gg, .ref k1, .int th])), (k1, .inl (b1, 8, .inl sk))] sz)) 0 0 (va_A [(k0, .inr (1, [.int mp, .int mq, .int mo, .int hc, .long ms9, .int kp, .int kq, .int kn, .int pp, .int qq, .int gg, .ref k1, .int th])), (k1, .inl (b1, 8, .inl sk))] sz) := by
  refine Met.ofW (cc := cX1_publicNumber) (maxL := 2) (ret := (some .int)) (by decide) rfl ?_
  intro p e s m args below meth c s₁ B hml hv
  obtain ⟨rfl, hsz, hP, hK, hD0⟩ := hv
  have hx := B.exec
  have hb := B.bytes
  have hr := B.returns
  have hts := atoms_spec (ws := wsX1_publicNumber) B.pre
  have hown : s.vm.findClass RX1 = some m.cls := findClass_of_methodNamed B.named
  have hlocks := B.notSynchronized
  subst hsz
  have hD := hD0.self (sz := s.heap.size)
  generalize hAe : va_A [(k0, .inr (1, [.int mp, .int mq, .int mo, .int hc, .long ms9, .int kp, .int kq, .int kn, .int pp, .int qq, .int gg, .ref k1, .int th])), (k1, .inl (b1, 8, .inl sk))] s.heap.size = A at hD ⊢
  have hA : ∀ q : Nat, s.heap.size ≤ q → A q := fun q h => by rw [← hAe]; exact Or.inr h
  have hS : va_S A s.heap s.heap [] := va_S.rf
  have hl := lv_entry ([.ref k0, .int x]) (n := 2) (Nat.le_of_ble_eq_true rfl)
  rw [lg_entry_eq]
  generalize (lg_sl ([.ref k0, .int x]) ++ List.replicate (2 - (lg_sl ([.ref k0, .int x])).length) Slot.unset).toArray = ls at hl ⊢
  have hl : lv_has ls 2 [(0, .ref k0), (1, .int x)] := hl
  refine lv_aload_n hx hb dX1_publicNumber_0 rfl (lv_at hl 0 rfl) ?_
  refine lv_aload_n hx hb dX1_publicNumber_1 rfl (lv_at hl 0 rfl) ?_
  refine lv_iload_n hx hb dX1_publicNumber_2 rfl (lv_at hl 1 rfl) ?_
  have hPc := hP.sub (ws' := [(k0, .inr (1, [.int mp, .int mq, .int mo, .int hc, .long ms9, .int kp, .int kq, .int kn, .int pp, .int qq, .int gg, .ref k1, .int th])), (k1, .inl (b1, 8, .inl sk))]) [0, 1] rfl
  have hKc := hK.sub (tys' := [(b1, .int)]) [0] rfl
  refine vp_callSi (W.runV (As := [.int x]) (rest := [.ref k0]) ⟨hx, hb, hml, hown, hts⟩ (dk_m_hasKey l dC dI k0 k1 b1 mp mq mo hc ms9 kp kq kn pp qq gg th sk x (fun j hj => (hIK j hj).imp id (fun q => q.2.1))) (cwV 1 hts gX1_publicNumber_X1_hasKey rfl rfl rfl (by decide +kernel) ⟨Nat.le_of_ble_eq_true rfl, Nat.le_of_ble_eq_true rfl⟩) ⟨fun a U g mk q => by obtain ⟨q0, qP, qK⟩ := q; exact ⟨q0, qP, va_K.moved (u := U) (U := U.calling g mk a) (Vm.Alike.refl U.vm) qK⟩, va_recv hKc hPc (ci := 1) (q0 := 0) rfl rfl, fun U hU hW => ⟨rfl, by rw [hU]; exact hPc, va_K.moved hW.alike hKc⟩⟩ rfl rfl hl.1 rfl (lv_room (Nat.le_of_ble_eq_true rfl)) dX1_publicNumber_3 ⟨Nat.le_of_ble_eq_true rfl, Nat.le_of_ble_eq_true rfl⟩) (fun r_3 hr_3 => ?_)
  subst hr_3
  refine lv_if_eq (tgt := 13) hx hb dX1_publicNumber_6 (by decide) (fun c_6 => ?_) (fun c_6 => ?_)
  · have hnk : ¬ dk_hk sk x := fun q => by
      rw [if_pos q] at c_6
      exact absurd c_6 (by decide)
    refine lv_iconst (v := 1) hx hb dX1_publicNumber_13 (by decide) ?_
    refine va_put (D := (dC, dI)) (ci := 1) (v := .int 1) (ty := .int) (C := RX1) (T := TX1) (N := 13) hx hb hts (by decide +kernel) tyX1 tyX1_ok nmX1 hown hK hP hD hS 0 rfl rfl 12 (by decide) (hts (.fieldLink RX1 13 "DomainKeysModel" "thrown" "I") (by decide +kernel)) (fun _ h9 => h9) rfl (by decide +kernel) rfl rfl (Nat.le_of_ble_eq_true rfl) dX1_publicNumber_14 (fun H locs hP hD hS => ?_)
    have hP : va_P (dC, dI) vwCl [(k0, .inr (1, [.int mp, .int mq, .int mo, .int hc, .long ms9, .int kp, .int kq, .int kn, .int pp, .int qq, .int gg, .ref k1, .int 1])), (k1, .inl (b1, 8, .inl sk))] H := hP
    have hD : va_D A [(k0, .inr (1, [.int mp, .int mq, .int mo, .int hc, .long ms9, .int kp, .int kq, .int kn, .int pp, .int qq, .int gg, .ref k1, .int 1])), (k1, .inl (b1, 8, .inl sk))] := hD
    refine lv_aload_n hx hb dX1_publicNumber_17 rfl (lv_at hl 0 rfl) ?_
    refine va_get (D := (dC, dI)) (ci := 1) (v := .int 1) (C := RX1) (T := TX1) (N := 13) hx hb hts (by decide +kernel) hown hK hP 0 rfl rfl 12 (by decide) (hts (.fieldLink RX1 13 "DomainKeysModel" "thrown" "I") (by decide +kernel)) (fun _ h9 => h9) rfl dX1_publicNumber_18 ?_
    refine lv_if_ne (tgt := 48) hx hb dX1_publicNumber_21 (by decide) (fun c_21 => ?_) (fun c_21 => ?_)
    · refine lv_iconst (v := 0) hx hb dX1_publicNumber_48 (by decide) ?_
      exact W.iret (v := 0) hx hb hr (fun t ht hW => ⟨⟨0, (mp, mq, mo, hc, ms9, kp, kq, kn, pp, qq, gg, 1, sk), rfl, ⟨1, by rw [dk_fpub, if_pos hnk], rfl⟩, by rw [ht]; exact hP, va_K.moved hW.alike hK, hD⟩, hS.F ht⟩) hS.2.2 dX1_publicNumber_49
    · exact absurd c_21 (by decide)
  · have hhk : dk_hk sk x := by
      by_cases q : dk_hk sk x
      · exact q
      · exact absurd (if_neg q) c_6
    obtain ⟨j, hj, rfl⟩ := dk_sl_of.mp hhk.1
    have hse : ¬ sk j = 0 := (dk_hk_nI hj).mp hhk
    obtain ⟨hdp, hex0⟩ := (hIK j hj).resolve_left hse
    obtain ⟨P, Q9, G, hP9, hQ9, hdom, rfl, rfl, rfl⟩ := hI.resolve_left (fun q => hdp q.1)
    obtain ⟨hs1, hs2, hs3, hs4, hs5, hs6⟩ := dk_dom_sz hP9 hdom
    obtain ⟨x9, hx91, hx92, hx93⟩ := dk_ex_of hQ9 hex0
    refine lv_iconst (v := 0) hx hb dX1_publicNumber_9 (by decide) ?_
    refine lv_goto (tgt := 14) hx hb dX1_publicNumber_10 (by decide) ?_
    refine va_put (D := (dC, dI)) (ci := 1) (v := .int 0) (ty := .int) (C := RX1) (T := TX1) (N := 13) hx hb hts (by decide +kernel) tyX1 tyX1_ok nmX1 hown hK hP hD hS 0 rfl rfl 12 (by decide) (hts (.fieldLink RX1 13 "DomainKeysModel" "thrown" "I") (by decide +kernel)) (fun _ h9 => h9) rfl (by decide +kernel) rfl rfl (Nat.le_of_ble_eq_true rfl) dX1_publicNumber_14 (fun H locs hP hD hS => ?_)
    have hP : va_P (dC, dI) vwCl [(k0, .inr (1, [.int mp, .int mq, .int mo, .int hc, .long ms9, .int kp, .int kq, .int kn, .int (nI P), .int (nI Q9), .int (nI G), .ref k1, .int 0])), (k1, .inl (b1, 8, .inl sk))] H := hP
    have hD : va_D A [(k0, .inr (1, [.int mp, .int mq, .int mo, .int hc, .long ms9, .int kp, .int kq, .int kn, .int (nI P), .int (nI Q9), .int (nI G), .ref k1, .int 0])), (k1, .inl (b1, 8, .inl sk))] := hD
    refine lv_aload_n hx hb dX1_publicNumber_17 rfl (lv_at hl 0 rfl) ?_
    refine va_get (D := (dC, dI)) (ci := 1) (v := .int 0) (C := RX1) (T := TX1) (N := 13) hx hb hts (by decide +kernel) hown hK hP 0 rfl rfl 12 (by decide) (hts (.fieldLink RX1 13 "DomainKeysModel" "thrown" "I") (by decide +kernel)) (fun _ h9 => h9) rfl dX1_publicNumber_18 ?_
    refine lv_if_ne (tgt := 48) hx hb dX1_publicNumber_21 (by decide) (fun c_21 => ?_) (fun c_21 => ?_)
    · exact absurd rfl c_21
    · refine lv_aload_n hx hb dX1_publicNumber_24 rfl (lv_at hl 0 rfl) ?_
      refine va_get (D := (dC, dI)) (ci := 1) (v := .int (nI G)) (C := RX1) (T := TX1) (N := 13) hx hb hts (by decide +kernel) hown hK hP 0 rfl rfl 10 (by decide) (hts (.fieldLink RX1 79 "DomainKeysModel" "g" "I") (by decide +kernel)) (fun _ h9 => h9) rfl dX1_publicNumber_25 ?_
      refine lv_i2l hx hb dX1_publicNumber_28 rfl ?_
      refine lv_topl (fun v_28 ev_28 => ?_)
      have ev_28 : v_28 = lN G := ev_28.trans (nI_l (by omega))
      subst ev_28
      refine lv_aload_n hx hb dX1_publicNumber_29 rfl (lv_at hl 0 rfl) ?_
      refine va_get (D := (dC, dI)) (ci := 1) (v := .ref k1) (C := RX1) (T := TX1) (N := 13) hx hb hts (by decide +kernel) hown hK hP 0 rfl rfl 11 (by decide) (hts (.fieldLink RX1 7 "DomainKeysModel" "secrets" "[I") (by decide +kernel)) (fun _ h9 => h9) rfl dX1_publicNumber_30 ?_
      refine lv_iload_n hx hb dX1_publicNumber_33 rfl (lv_at hl 1 rfl) ?_
      refine va_iald hx hb hK hP 1 0 rfl rfl (vp_in_nI hj (by decide)) dX1_publicNumber_34 ?_
      refine lv_topi (fun v_34 ev_34 => ?_)
      have ev_34 : v_34 = sk j := ev_34.trans (congrArg sk (nI_clamp (Nat.lt_trans hj (by decide))))
      subst ev_34
      refine lv_topi (fun v_34 ev_34 => ?_)
      have ev_34 : v_34 = nI x9 := ev_34.trans hx93
      subst ev_34
      refine lv_i2l hx hb dX1_publicNumber_35 rfl ?_
      refine lv_topl (fun v_35 ev_35 => ?_)
      have ev_35 : v_35 = lN x9 := ev_35.trans (nI_l (by omega))
      subst ev_35
      refine lv_aload_n hx hb dX1_publicNumber_36 rfl (lv_at hl 0 rfl) ?_
      refine va_get (D := (dC, dI)) (ci := 1) (v := .int (nI P)) (C := RX1) (T := TX1) (N := 13) hx hb hts (by decide +kernel) hown hK hP 0 rfl rfl 8 (by decide) (hts (.fieldLink RX1 73 "DomainKeysModel" "p" "I") (by decide +kernel)) (fun _ h9 => h9) rfl dX1_publicNumber_37 ?_
      refine lv_i2l hx hb dX1_publicNumber_40 rfl ?_
      refine lv_topl (fun v_40 ev_40 => ?_)
      have ev_40 : v_40 = lN P := ev_40.trans (nI_l hP9)
      subst ev_40
      refine vp_callSl (W.runS (As := [.long (lN G), .long (lN x9), .long (lN P)]) (rest := []) ⟨hx, hb, hml, hown, hts⟩ (dk_m_power l G x9 P (by omega) (by omega) (by omega) hP9) (va_cwS 3 hts gX1_publicNumber_X1_power rfl rfl rfl (by decide +kernel) ⟨Nat.le_of_ble_eq_true rfl, Nat.le_of_ble_eq_true rfl⟩) ⟨fun _ _ _ _ q9 => q9, fun U hU hW => ⟨rfl, trivial⟩⟩ rfl rfl hl.1 rfl (lv_room (Nat.le_of_ble_eq_true rfl)) dX1_publicNumber_41 ⟨Nat.le_of_ble_eq_true rfl, Nat.le_of_ble_eq_true rfl⟩) (fun r_41 hr_41 => ?_)
      subst hr_41
      refine lv_l2i hx hb dX1_publicNumber_44 rfl ?_
      refine lv_topi (fun v_44 ev_44 => ?_)
      have ev_44 : v_44 = nI (G ^ x9 % P) := ev_44.trans (lN_i _)
      subst ev_44
      refine lv_goto (tgt := 49) hx hb dX1_publicNumber_45 (by decide) ?_
      exact W.iret (v := (nI (G ^ x9 % P))) hx hb hr (fun t ht hW => ⟨⟨nI (G ^ x9 % P), (mp, mq, mo, hc, ms9, kp, kq, kn, nI P, nI Q9, nI G, 0, sk), rfl, ⟨0, by rw [dk_fpub, if_neg (fun q => q hhk), dk_n_nI (show j < 2147483648 by omega), hx93, dk_pw_nI (by omega) (by omega) hP9], rfl⟩, by rw [ht]; exact hP, va_K.moved hW.alike hK, hD⟩, hS.F ht⟩) hS.2.2 dX1_publicNumber_49

set_option maxHeartbeats 4000000 in
set_option maxRecDepth 100000 in
theorem dk_m_forget (l : Launch) (dC : Nat → ClassId) (dI : Nat → Nat → Nat) (k0 k1 : Nat) (b1 : ClassId) (mp mq mo hc : Int32) (ms9 : Int64) (kp kq kn pp qq gg th : Int32) (sk : Nat → Int32) (x : Int32) (hIK : ∀ j, j < 8 → sk j = 0 ∨ (¬ pp = 0 ∧ dk_ex (sk j) qq)) (sz : Nat) : Met l yX1_forget wsX1_forget ({ frames := 1, cells := 0, slots := 0, locals := 21 }) (va_Pc [.ref k0, .int x] (fun U => U.heap.size = sz ∧ va_P (dC, dI) vwCl [(k0, .inr (1, [.int mp, .int mq, .int mo, .int hc, .long ms9, .int kp, .int kq, .int kn, .int pp, .int qq, .int gg, .ref k1, .int th])), (k1, .inl (b1, 8, .inl sk))] U.heap ∧ va_K (dC, dI) vwCl [(b1, .int)] U ∧ va_D (fun _ => True) [(k0, .inr (1, [.int mp, .int mq, .int mo, .int hc, .long ms9, .int kp, .int kq, .int kn, .int pp, .int qq, .int gg, .ref k1, .int th])), (k1, .inl (b1, 8, .inl sk))])) (va_Qv (fun u9 : dk_T => (dk_ffor sk x = 0 ∧ u9 = (mp, mq, mo, hc, ms9, kp, kq, kn, pp, qq, gg, 0, upd sk (dk_n x) 0)) ∨ (dk_ffor sk x = 1 ∧ u9 = (mp, mq, mo, hc, ms9, kp, kq, kn, pp, qq, gg, 1, sk))) (dk_C dC dI (va_A [(k0, .inr (1, [.int mp, .int mq, .int mo, .int hc, .long ms9, .int kp, .int kq, .int kn, .int pp, .int qq, .int gg, .ref k1, .int th])), (k1, .inl (b1, 8, .inl sk))] sz) k0 k1 b1) (va_A [(k0, .inr (1, [.int mp, .int mq, .int mo, .int hc, .long ms9, .int kp, .int kq, .int kn, .int pp, .int qq, .int gg, .ref k1, .int th])), (k1, .inl (b1, 8, .inl sk))] sz)) 0 0 (va_A [(k0, .inr (1, [.int mp, .int mq, .int mo, .int hc, .long ms9, .int kp, .int kq, .int kn, .int pp, .int qq, .int gg, .ref k1, .int th])), (k1, .inl (b1, 8, .inl sk))] sz) := by
  refine Met.ofW (cc := cX1_forget) (maxL := 2) (ret := none) (by decide) rfl ?_
  intro p e s m args below meth c s₁ B hml hv
  obtain ⟨rfl, hsz, hP, hK, hD0⟩ := hv
  have hx := B.exec
  have hb := B.bytes
  have hr := B.returns
  have hts := atoms_spec (ws := wsX1_forget) B.pre
  have hown : s.vm.findClass RX1 = some m.cls := findClass_of_methodNamed B.named
  have hlocks := B.notSynchronized
  subst hsz
  have hD := hD0.self (sz := s.heap.size)
  generalize hAe : va_A [(k0, .inr (1, [.int mp, .int mq, .int mo, .int hc, .long ms9, .int kp, .int kq, .int kn, .int pp, .int qq, .int gg, .ref k1, .int th])), (k1, .inl (b1, 8, .inl sk))] s.heap.size = A at hD ⊢
  have hA : ∀ q : Nat, s.heap.size ≤ q → A q := fun q h => by rw [← hAe]; exact Or.inr h
  have hS : va_S A s.heap s.heap [] := va_S.rf
  have hl := lv_entry ([.ref k0, .int x]) (n := 2) (Nat.le_of_ble_eq_true rfl)
  rw [lg_entry_eq]
  generalize (lg_sl ([.ref k0, .int x]) ++ List.replicate (2 - (lg_sl ([.ref k0, .int x])).length) Slot.unset).toArray = ls at hl ⊢
  have hl : lv_has ls 2 [(0, .ref k0), (1, .int x)] := hl
  refine lv_aload_n hx hb dX1_forget_0 rfl (lv_at hl 0 rfl) ?_
  refine lv_aload_n hx hb dX1_forget_1 rfl (lv_at hl 0 rfl) ?_
  refine lv_iload_n hx hb dX1_forget_2 rfl (lv_at hl 1 rfl) ?_
  have hPc := hP.sub (ws' := [(k0, .inr (1, [.int mp, .int mq, .int mo, .int hc, .long ms9, .int kp, .int kq, .int kn, .int pp, .int qq, .int gg, .ref k1, .int th])), (k1, .inl (b1, 8, .inl sk))]) [0, 1] rfl
  have hKc := hK.sub (tys' := [(b1, .int)]) [0] rfl
  refine vp_callSi (W.runV (As := [.int x]) (rest := [.ref k0]) ⟨hx, hb, hml, hown, hts⟩ (dk_m_hasKey l dC dI k0 k1 b1 mp mq mo hc ms9 kp kq kn pp qq gg th sk x (fun j hj => (hIK j hj).imp id (fun q => q.2.1))) (cwV 1 hts gX1_forget_X1_hasKey rfl rfl rfl (by decide +kernel) ⟨Nat.le_of_ble_eq_true rfl, Nat.le_of_ble_eq_true rfl⟩) ⟨fun a U g mk q => by obtain ⟨q0, qP, qK⟩ := q; exact ⟨q0, qP, va_K.moved (u := U) (U := U.calling g mk a) (Vm.Alike.refl U.vm) qK⟩, va_recv hKc hPc (ci := 1) (q0 := 0) rfl rfl, fun U hU hW => ⟨rfl, by rw [hU]; exact hPc, va_K.moved hW.alike hKc⟩⟩ rfl rfl hl.1 rfl (lv_room (Nat.le_of_ble_eq_true rfl)) dX1_forget_3 ⟨Nat.le_of_ble_eq_true rfl, Nat.le_of_ble_eq_true rfl⟩) (fun r_3 hr_3 => ?_)
  subst hr_3
  refine lv_if_eq (tgt := 13) hx hb dX1_forget_6 (by decide) (fun c_6 => ?_) (fun c_6 => ?_)
  · have hnk : ¬ dk_hk sk x := fun q => by
      rw [if_pos q] at c_6
      exact absurd c_6 (by decide)
    refine lv_iconst (v := 1) hx hb dX1_forget_13 (by decide) ?_
    refine va_put (D := (dC, dI)) (ci := 1) (v := .int 1) (ty := .int) (C := RX1) (T := TX1) (N := 13) hx hb hts (by decide +kernel) tyX1 tyX1_ok nmX1 hown hK hP hD hS 0 rfl rfl 12 (by decide) (hts (.fieldLink RX1 13 "DomainKeysModel" "thrown" "I") (by decide +kernel)) (fun _ h9 => h9) rfl (by decide +kernel) rfl rfl (Nat.le_of_ble_eq_true rfl) dX1_forget_14 (fun H locs hP hD hS => ?_)
    have hP : va_P (dC, dI) vwCl [(k0, .inr (1, [.int mp, .int mq, .int mo, .int hc, .long ms9, .int kp, .int kq, .int kn, .int pp, .int qq, .int gg, .ref k1, .int 1])), (k1, .inl (b1, 8, .inl sk))] H := hP
    have hD : va_D A [(k0, .inr (1, [.int mp, .int mq, .int mo, .int hc, .long ms9, .int kp, .int kq, .int kn, .int pp, .int qq, .int gg, .ref k1, .int 1])), (k1, .inl (b1, 8, .inl sk))] := hD
    refine lv_aload_n hx hb dX1_forget_17 rfl (lv_at hl 0 rfl) ?_
    refine va_get (D := (dC, dI)) (ci := 1) (v := .int 1) (C := RX1) (T := TX1) (N := 13) hx hb hts (by decide +kernel) hown hK hP 0 rfl rfl 12 (by decide) (hts (.fieldLink RX1 13 "DomainKeysModel" "thrown" "I") (by decide +kernel)) (fun _ h9 => h9) rfl dX1_forget_18 ?_
    refine lv_if_ne (tgt := 31) hx hb dX1_forget_21 (by decide) (fun c_21 => ?_) (fun c_21 => ?_)
    · exact W.vret hx hb hr (fun t ht hW => ⟨⟨(mp, mq, mo, hc, ms9, kp, kq, kn, pp, qq, gg, 1, sk), rfl, Or.inr ⟨by rw [dk_ffor, if_pos hnk], rfl⟩, by rw [ht]; exact hP, va_K.moved hW.alike hK, hD⟩, hS.F ht⟩) hS.2.2 dX1_forget_31
    · exact absurd c_21 (by decide)
  · have hhk : dk_hk sk x := by
      by_cases q : dk_hk sk x
      · exact q
      · exact absurd (if_neg q) c_6
    obtain ⟨j, hj, rfl⟩ := dk_sl_of.mp hhk.1
    have hse : ¬ sk j = 0 := (dk_hk_nI hj).mp hhk
    refine lv_iconst (v := 0) hx hb dX1_forget_9 (by decide) ?_
    refine lv_goto (tgt := 14) hx hb dX1_forget_10 (by decide) ?_
    refine va_put (D := (dC, dI)) (ci := 1) (v := .int 0) (ty := .int) (C := RX1) (T := TX1) (N := 13) hx hb hts (by decide +kernel) tyX1 tyX1_ok nmX1 hown hK hP hD hS 0 rfl rfl 12 (by decide) (hts (.fieldLink RX1 13 "DomainKeysModel" "thrown" "I") (by decide +kernel)) (fun _ h9 => h9) rfl (by decide +kernel) rfl rfl (Nat.le_of_ble_eq_true rfl) dX1_forget_14 (fun H locs hP hD hS => ?_)
    have hP : va_P (dC, dI) vwCl [(k0, .inr (1, [.int mp, .int mq, .int mo, .int hc, .long ms9, .int kp, .int kq, .int kn, .int pp, .int qq, .int gg, .ref k1, .int 0])), (k1, .inl (b1, 8, .inl sk))] H := hP
    have hD : va_D A [(k0, .inr (1, [.int mp, .int mq, .int mo, .int hc, .long ms9, .int kp, .int kq, .int kn, .int pp, .int qq, .int gg, .ref k1, .int 0])), (k1, .inl (b1, 8, .inl sk))] := hD
    refine lv_aload_n hx hb dX1_forget_17 rfl (lv_at hl 0 rfl) ?_
    refine va_get (D := (dC, dI)) (ci := 1) (v := .int 0) (C := RX1) (T := TX1) (N := 13) hx hb hts (by decide +kernel) hown hK hP 0 rfl rfl 12 (by decide) (hts (.fieldLink RX1 13 "DomainKeysModel" "thrown" "I") (by decide +kernel)) (fun _ h9 => h9) rfl dX1_forget_18 ?_
    refine lv_if_ne (tgt := 31) hx hb dX1_forget_21 (by decide) (fun c_21 => ?_) (fun c_21 => ?_)
    · exact absurd rfl c_21
    · refine lv_aload_n hx hb dX1_forget_24 rfl (lv_at hl 0 rfl) ?_
      refine va_get (D := (dC, dI)) (ci := 1) (v := .ref k1) (C := RX1) (T := TX1) (N := 13) hx hb hts (by decide +kernel) hown hK hP 0 rfl rfl 11 (by decide) (hts (.fieldLink RX1 7 "DomainKeysModel" "secrets" "[I") (by decide +kernel)) (fun _ h9 => h9) rfl dX1_forget_25 ?_
      refine lv_iload_n hx hb dX1_forget_28 rfl (lv_at hl 1 rfl) ?_
      refine lv_iconst (v := 0) hx hb dX1_forget_29 (by decide) ?_
      refine va_iast hx hb hK hP hD hS 1 0 rfl rfl (vp_in_nI hj (by decide)) dX1_forget_30 (fun H locs hP hD hS => ?_)
      rw [(nI_clamp (Nat.lt_trans hj (by decide)))] at hP hD
      have hP : va_P (dC, dI) vwCl [(k0, .inr (1, [.int mp, .int mq, .int mo, .int hc, .long ms9, .int kp, .int kq, .int kn, .int pp, .int qq, .int gg, .ref k1, .int 0])), (k1, .inl (b1, 8, .inl (upd sk j 0)))] H := hP
      have hD : va_D A [(k0, .inr (1, [.int mp, .int mq, .int mo, .int hc, .long ms9, .int kp, .int kq, .int kn, .int pp, .int qq, .int gg, .ref k1, .int 0])), (k1, .inl (b1, 8, .inl (upd sk j 0)))] := hD
      exact W.vret hx hb hr (fun t ht hW => ⟨⟨(mp, mq, mo, hc, ms9, kp, kq, kn, pp, qq, gg, 0, (upd sk j 0)), rfl, Or.inl ⟨by rw [dk_ffor, if_neg (fun q => q hhk)], by rw [dk_n_nI (by omega)]⟩, by rw [ht]; exact hP, va_K.moved hW.alike hK, hD⟩, hS.F ht⟩) hS.2.2 dX1_forget_31

set_option maxHeartbeats 4000000 in
set_option maxRecDepth 100000 in
theorem dk_m_fits (l : Launch) (dC : Nat → ClassId) (dI : Nat → Nat → Nat) (k0 k1 : Nat) (b1 : ClassId) (mp mq mo hc : Int32) (ms9 : Int64) (kp kq kn pp qq gg th : Int32) (sk : Nat → Int32) (y : Int32) (hI : dk_ID pp qq gg) (sz : Nat) : Met l yX1_fits wsX1_fits ({ frames := 1, cells := 0, slots := 0, locals := 30 }) (va_Pc [.ref k0, .int y] (fun U => U.heap.size = sz ∧ va_P (dC, dI) vwCl [(k0, .inr (1, [.int mp, .int mq, .int mo, .int hc, .long ms9, .int kp, .int kq, .int kn, .int pp, .int qq, .int gg, .ref k1, .int th])), (k1, .inl (b1, 8, .inl sk))] U.heap ∧ va_K (dC, dI) vwCl [(b1, .int)] U ∧ va_D (fun _ => True) [(k0, .inr (1, [.int mp, .int mq, .int mo, .int hc, .long ms9, .int kp, .int kq, .int kn, .int pp, .int qq, .int gg, .ref k1, .int th])), (k1, .inl (b1, 8, .inl sk))])) (va_Qi (fun (r9 : Int32) (u9 : dk_T) => ∃ th2 : Int32, dk_ffit pp qq y = (th2, r9) ∧ u9 = (mp, mq, mo, hc, ms9, kp, kq, kn, pp, qq, gg, th2, sk)) (dk_C dC dI (va_A [(k0, .inr (1, [.int mp, .int mq, .int mo, .int hc, .long ms9, .int kp, .int kq, .int kn, .int pp, .int qq, .int gg, .ref k1, .int th])), (k1, .inl (b1, 8, .inl sk))] sz) k0 k1 b1) (va_A [(k0, .inr (1, [.int mp, .int mq, .int mo, .int hc, .long ms9, .int kp, .int kq, .int kn, .int pp, .int qq, .int gg, .ref k1, .int th])), (k1, .inl (b1, 8, .inl sk))] sz)) 0 0 (va_A [(k0, .inr (1, [.int mp, .int mq, .int mo, .int hc, .long ms9, .int kp, .int kq, .int kn, .int pp, .int qq, .int gg, .ref k1, .int th])), (k1, .inl (b1, 8, .inl sk))] sz) := by
  refine Met.ofW (cc := cX1_fits) (maxL := 2) (ret := (some .boolean)) (by decide) rfl ?_
  intro p e s m args below meth c s₁ B hml hv
  obtain ⟨rfl, hsz, hP, hK, hD0⟩ := hv
  have hx := B.exec
  have hb := B.bytes
  have hr := B.returns
  have hts := atoms_spec (ws := wsX1_fits) B.pre
  have hown : s.vm.findClass RX1 = some m.cls := findClass_of_methodNamed B.named
  have hlocks := B.notSynchronized
  subst hsz
  have hD := hD0.self (sz := s.heap.size)
  generalize hAe : va_A [(k0, .inr (1, [.int mp, .int mq, .int mo, .int hc, .long ms9, .int kp, .int kq, .int kn, .int pp, .int qq, .int gg, .ref k1, .int th])), (k1, .inl (b1, 8, .inl sk))] s.heap.size = A at hD ⊢
  have hA : ∀ q : Nat, s.heap.size ≤ q → A q := fun q h => by rw [← hAe]; exact Or.inr h
  have hS : va_S A s.heap s.heap [] := va_S.rf
  have hl := lv_entry ([.ref k0, .int y]) (n := 2) (Nat.le_of_ble_eq_true rfl)
  rw [lg_entry_eq]
  generalize (lg_sl ([.ref k0, .int y]) ++ List.replicate (2 - (lg_sl ([.ref k0, .int y])).length) Slot.unset).toArray = ls at hl ⊢
  have hl : lv_has ls 2 [(0, .ref k0), (1, .int y)] := hl
  refine lv_aload_n hx hb dX1_fits_0 rfl (lv_at hl 0 rfl) ?_
  refine lv_aload_n hx hb dX1_fits_1 rfl (lv_at hl 0 rfl) ?_
  refine va_get (D := (dC, dI)) (ci := 1) (v := .int pp) (C := RX1) (T := TX1) (N := 13) hx hb hts (by decide +kernel) hown hK hP 0 rfl rfl 8 (by decide) (hts (.fieldLink RX1 73 "DomainKeysModel" "p" "I") (by decide +kernel)) (fun _ h9 => h9) rfl dX1_fits_2 ?_
  refine lv_if_ne (tgt := 12) hx hb dX1_fits_5 (by decide) (fun c_5 => ?_) (fun c_5 => ?_)
  · obtain ⟨P, Q9, G, hP9, hQ9, hdom, rfl, rfl, rfl⟩ := hI.resolve_left (fun q => c_5 q.1)
    obtain ⟨hs1, hs2, hs3, hs4, hs5, hs6⟩ := dk_dom_sz hP9 hdom
    refine lv_iconst (v := 0) hx hb dX1_fits_12 (by decide) ?_
    refine va_put (D := (dC, dI)) (ci := 1) (v := .int 0) (ty := .int) (C := RX1) (T := TX1) (N := 13) hx hb hts (by decide +kernel) tyX1 tyX1_ok nmX1 hown hK hP hD hS 0 rfl rfl 12 (by decide) (hts (.fieldLink RX1 13 "DomainKeysModel" "thrown" "I") (by decide +kernel)) (fun _ h9 => h9) rfl (by decide +kernel) rfl rfl (Nat.le_of_ble_eq_true rfl) dX1_fits_13 (fun H locs hP hD hS => ?_)
    have hP : va_P (dC, dI) vwCl [(k0, .inr (1, [.int mp, .int mq, .int mo, .int hc, .long ms9, .int kp, .int kq, .int kn, .int (nI P), .int (nI Q9), .int (nI G), .ref k1, .int 0])), (k1, .inl (b1, 8, .inl sk))] H := hP
    have hD : va_D A [(k0, .inr (1, [.int mp, .int mq, .int mo, .int hc, .long ms9, .int kp, .int kq, .int kn, .int (nI P), .int (nI Q9), .int (nI G), .ref k1, .int 0])), (k1, .inl (b1, 8, .inl sk))] := hD
    refine lv_aload_n hx hb dX1_fits_16 rfl (lv_at hl 0 rfl) ?_
    refine va_get (D := (dC, dI)) (ci := 1) (v := .int 0) (C := RX1) (T := TX1) (N := 13) hx hb hts (by decide +kernel) hown hK hP 0 rfl rfl 12 (by decide) (hts (.fieldLink RX1 13 "DomainKeysModel" "thrown" "I") (by decide +kernel)) (fun _ h9 => h9) rfl dX1_fits_17 ?_
    refine lv_if_ne (tgt := 62) hx hb dX1_fits_20 (by decide) (fun c_20 => ?_) (fun c_20 => ?_)
    · exact absurd rfl c_20
    · refine lv_iload_n hx hb dX1_fits_23 rfl (lv_at hl 1 rfl) ?_
      refine lv_iconst (v := 2) hx hb dX1_fits_24 (by decide) ?_
      refine lv_icmp_lt (tgt := 62) hx hb dX1_fits_25 (by decide) (fun c_25 => ?_) (fun c_25 => ?_)
      · have hno : ¬ (dk_pe y (nI P) ∧ dk_pw y (nI Q9) (nI P) = 1) := fun q => dk_not_lt.mpr q.1.1 c_25
        refine lv_iconst (v := 0) hx hb dX1_fits_62 (by decide) ?_
        exact W.zret (v := 0) (ty := .boolean) hx hb hr rfl (fun t ht hW => ⟨⟨0, (mp, mq, mo, hc, ms9, kp, kq, kn, nI P, nI Q9, nI G, 0, sk), rfl, ⟨0, by rw [dk_ffit, if_neg c_5, if_neg hno], rfl⟩, by rw [ht]; exact hP, va_K.moved hW.alike hK, hD⟩, hS.F ht⟩) hS.2.2 dX1_fits_63
      · refine lv_iload_n hx hb dX1_fits_28 rfl (lv_at hl 1 rfl) ?_
        refine lv_aload_n hx hb dX1_fits_29 rfl (lv_at hl 0 rfl) ?_
        refine va_get (D := (dC, dI)) (ci := 1) (v := .int (nI P)) (C := RX1) (T := TX1) (N := 13) hx hb hts (by decide +kernel) hown hK hP 0 rfl rfl 8 (by decide) (hts (.fieldLink RX1 73 "DomainKeysModel" "p" "I") (by decide +kernel)) (fun _ h9 => h9) rfl dX1_fits_30 ?_
        refine lv_iconst (v := 2) hx hb dX1_fits_33 (by decide) ?_
        refine lv_isub hx hb dX1_fits_34 ?_
        refine lv_icmp_gt (tgt := 62) hx hb dX1_fits_35 (by decide) (fun c_35 => ?_) (fun c_35 => ?_)
        · have hno : ¬ (dk_pe y (nI P) ∧ dk_pw y (nI Q9) (nI P) = 1) := fun q => dk_not_lt.mpr q.1.2 c_35
          refine lv_iconst (v := 0) hx hb dX1_fits_62 (by decide) ?_
          exact W.zret (v := 0) (ty := .boolean) hx hb hr rfl (fun t ht hW => ⟨⟨0, (mp, mq, mo, hc, ms9, kp, kq, kn, nI P, nI Q9, nI G, 0, sk), rfl, ⟨0, by rw [dk_ffit, if_neg c_5, if_neg hno], rfl⟩, by rw [ht]; exact hP, va_K.moved hW.alike hK, hD⟩, hS.F ht⟩) hS.2.2 dX1_fits_63
        · have hpe : dk_pe y (nI P) := ⟨dk_not_lt.mp c_25, dk_not_lt.mp c_35⟩
          obtain ⟨y9, hy1, hy2, rfl⟩ := (dk_pe_of (by omega) hP9).mp hpe
          have hyl : y9 ^ Q9 % P < P := Nat.mod_lt _ (by omega)
          refine lv_iload_n hx hb dX1_fits_38 rfl (lv_at hl 1 rfl) ?_
          refine lv_i2l hx hb dX1_fits_39 rfl ?_
          refine lv_topl (fun v_39 ev_39 => ?_)
          have ev_39 : v_39 = lN y9 := ev_39.trans (nI_l (by omega))
          subst ev_39
          refine lv_aload_n hx hb dX1_fits_40 rfl (lv_at hl 0 rfl) ?_
          refine va_get (D := (dC, dI)) (ci := 1) (v := .int (nI Q9)) (C := RX1) (T := TX1) (N := 13) hx hb hts (by decide +kernel) hown hK hP 0 rfl rfl 9 (by decide) (hts (.fieldLink RX1 76 "DomainKeysModel" "q" "I") (by decide +kernel)) (fun _ h9 => h9) rfl dX1_fits_41 ?_
          refine lv_i2l hx hb dX1_fits_44 rfl ?_
          refine lv_topl (fun v_44 ev_44 => ?_)
          have ev_44 : v_44 = lN Q9 := ev_44.trans (nI_l hQ9)
          subst ev_44
          refine lv_aload_n hx hb dX1_fits_45 rfl (lv_at hl 0 rfl) ?_
          refine va_get (D := (dC, dI)) (ci := 1) (v := .int (nI P)) (C := RX1) (T := TX1) (N := 13) hx hb hts (by decide +kernel) hown hK hP 0 rfl rfl 8 (by decide) (hts (.fieldLink RX1 73 "DomainKeysModel" "p" "I") (by decide +kernel)) (fun _ h9 => h9) rfl dX1_fits_46 ?_
          refine lv_i2l hx hb dX1_fits_49 rfl ?_
          refine lv_topl (fun v_49 ev_49 => ?_)
          have ev_49 : v_49 = lN P := ev_49.trans (nI_l hP9)
          subst ev_49
          refine vp_callSl (W.runS (As := [.long (lN y9), .long (lN Q9), .long (lN P)]) (rest := []) ⟨hx, hb, hml, hown, hts⟩ (dk_m_power l y9 Q9 P (by omega) hQ9 (by omega) hP9) (va_cwS 3 hts gX1_fits_X1_power rfl rfl rfl (by decide +kernel) ⟨Nat.le_of_ble_eq_true rfl, Nat.le_of_ble_eq_true rfl⟩) ⟨fun _ _ _ _ q9 => q9, fun U hU hW => ⟨rfl, trivial⟩⟩ rfl rfl hl.1 rfl (lv_room (Nat.le_of_ble_eq_true rfl)) dX1_fits_50 ⟨Nat.le_of_ble_eq_true rfl, Nat.le_of_ble_eq_true rfl⟩) (fun r_50 hr_50 => ?_)
          subst hr_50
          refine lv_lconst (v := 1) hx hb dX1_fits_53 (by decide) ?_
          refine W.lcmp hx hb dX1_fits_54 ?_
          refine lv_if_ne (tgt := 62) hx hb dX1_fits_55 (by decide) (fun c_55 => ?_) (fun c_55 => ?_)
          · have hno : ¬ (dk_pe (nI y9) (nI P) ∧ dk_pw (nI y9) (nI Q9) (nI P) = 1) := fun q => by
              rw [dk_pw_nI (by omega) hQ9 hP9] at q
              exact c_55 ((lg_cmp_eq _ _).mpr (congrArg lN ((nI_eq (b := 1) (by omega) (by omega)).mp q.2)))
            refine lv_iconst (v := 0) hx hb dX1_fits_62 (by decide) ?_
            exact W.zret (v := 0) (ty := .boolean) hx hb hr rfl (fun t ht hW => ⟨⟨0, (mp, mq, mo, hc, ms9, kp, kq, kn, nI P, nI Q9, nI G, 0, sk), rfl, ⟨0, by rw [dk_ffit, if_neg c_5, if_neg hno], rfl⟩, by rw [ht]; exact hP, va_K.moved hW.alike hK, hD⟩, hS.F ht⟩) hS.2.2 dX1_fits_63
          · have hyes : dk_pe (nI y9) (nI P) ∧ dk_pw (nI y9) (nI Q9) (nI P) = 1 := ⟨hpe, by rw [dk_pw_nI (by omega) hQ9 hP9, (pk_lEQ (b := 1) (by omega) (by omega)).mp ((lg_cmp_eq _ _).mp c_55)]; rfl⟩
            refine lv_iconst (v := 1) hx hb dX1_fits_58 (by decide) ?_
            refine lv_goto (tgt := 63) hx hb dX1_fits_59 (by decide) ?_
            exact W.zret (v := 1) (ty := .boolean) hx hb hr rfl (fun t ht hW => ⟨⟨1, (mp, mq, mo, hc, ms9, kp, kq, kn, nI P, nI Q9, nI G, 0, sk), rfl, ⟨0, by rw [dk_ffit, if_neg c_5, if_pos hyes], rfl⟩, by rw [ht]; exact hP, va_K.moved hW.alike hK, hD⟩, hS.F ht⟩) hS.2.2 dX1_fits_63
  · refine lv_iconst (v := 1) hx hb dX1_fits_8 (by decide) ?_
    refine lv_goto (tgt := 13) hx hb dX1_fits_9 (by decide) ?_
    refine va_put (D := (dC, dI)) (ci := 1) (v := .int 1) (ty := .int) (C := RX1) (T := TX1) (N := 13) hx hb hts (by decide +kernel) tyX1 tyX1_ok nmX1 hown hK hP hD hS 0 rfl rfl 12 (by decide) (hts (.fieldLink RX1 13 "DomainKeysModel" "thrown" "I") (by decide +kernel)) (fun _ h9 => h9) rfl (by decide +kernel) rfl rfl (Nat.le_of_ble_eq_true rfl) dX1_fits_13 (fun H locs hP hD hS => ?_)
    have hP : va_P (dC, dI) vwCl [(k0, .inr (1, [.int mp, .int mq, .int mo, .int hc, .long ms9, .int kp, .int kq, .int kn, .int pp, .int qq, .int gg, .ref k1, .int 1])), (k1, .inl (b1, 8, .inl sk))] H := hP
    have hD : va_D A [(k0, .inr (1, [.int mp, .int mq, .int mo, .int hc, .long ms9, .int kp, .int kq, .int kn, .int pp, .int qq, .int gg, .ref k1, .int 1])), (k1, .inl (b1, 8, .inl sk))] := hD
    refine lv_aload_n hx hb dX1_fits_16 rfl (lv_at hl 0 rfl) ?_
    refine va_get (D := (dC, dI)) (ci := 1) (v := .int 1) (C := RX1) (T := TX1) (N := 13) hx hb hts (by decide +kernel) hown hK hP 0 rfl rfl 12 (by decide) (hts (.fieldLink RX1 13 "DomainKeysModel" "thrown" "I") (by decide +kernel)) (fun _ h9 => h9) rfl dX1_fits_17 ?_
    refine lv_if_ne (tgt := 62) hx hb dX1_fits_20 (by decide) (fun c_20 => ?_) (fun c_20 => ?_)
    · refine lv_iconst (v := 0) hx hb dX1_fits_62 (by decide) ?_
      exact W.zret (v := 0) (ty := .boolean) hx hb hr rfl (fun t ht hW => ⟨⟨0, (mp, mq, mo, hc, ms9, kp, kq, kn, pp, qq, gg, 1, sk), rfl, ⟨1, by rw [dk_ffit, if_pos c_5], rfl⟩, by rw [ht]; exact hP, va_K.moved hW.alike hK, hD⟩, hS.F ht⟩) hS.2.2 dX1_fits_63
    · exact absurd c_20 (by decide)

set_option maxHeartbeats 4000000 in
set_option maxRecDepth 100000 in
theorem dk_m_agree (l : Launch) (dC : Nat → ClassId) (dI : Nat → Nat → Nat) (k0 k1 : Nat) (b1 : ClassId) (mp mq mo hc : Int32) (ms9 : Int64) (kp kq kn pp qq gg th : Int32) (sk : Nat → Int32) (x y : Int32) (hI : dk_ID pp qq gg) (hIK : ∀ j, j < 8 → sk j = 0 ∨ (¬ pp = 0 ∧ dk_ex (sk j) qq)) (sz : Nat) : Met l yX1_agree wsX1_agree ({ frames := 1, cells := 0, slots := 0, locals := 30 }) (va_Pc [.ref k0, .int x, .int y] (fun U => U.heap.size = sz ∧ va_P (dC, dI) vwCl [(k0, .inr (1, [.int mp, .int mq, .int mo, .int hc, .long ms9, .int kp, .int kq, .int kn, .int pp, .int qq, .int gg, .ref k1, .int th])), (k1, .inl (b1, 8, .inl sk))] U.heap ∧ va_K (dC, dI) vwCl [(b1, .int)] U ∧ va_D (fun _ => True) [(k0, .inr (1, [.int mp, .int mq, .int mo, .int hc, .long ms9, .int kp, .int kq, .int kn, .int pp, .int qq, .int gg, .ref k1, .int th])), (k1, .inl (b1, 8, .inl sk))])) (va_Qi (fun (r9 : Int32) (u9 : dk_T) => ∃ th2 : Int32, dk_fagr pp sk x y = (th2, r9) ∧ u9 = (mp, mq, mo, hc, ms9, kp, kq, kn, pp, qq, gg, th2, sk)) (dk_C dC dI (va_A [(k0, .inr (1, [.int mp, .int mq, .int mo, .int hc, .long ms9, .int kp, .int kq, .int kn, .int pp, .int qq, .int gg, .ref k1, .int th])), (k1, .inl (b1, 8, .inl sk))] sz) k0 k1 b1) (va_A [(k0, .inr (1, [.int mp, .int mq, .int mo, .int hc, .long ms9, .int kp, .int kq, .int kn, .int pp, .int qq, .int gg, .ref k1, .int th])), (k1, .inl (b1, 8, .inl sk))] sz)) 0 0 (va_A [(k0, .inr (1, [.int mp, .int mq, .int mo, .int hc, .long ms9, .int kp, .int kq, .int kn, .int pp, .int qq, .int gg, .ref k1, .int th])), (k1, .inl (b1, 8, .inl sk))] sz) := by
  refine Met.ofW (cc := cX1_agree) (maxL := 5) (ret := (some .int)) (by decide) rfl ?_
  intro p e s m args below meth c s₁ B hml hv
  obtain ⟨rfl, hsz, hP, hK, hD0⟩ := hv
  have hx := B.exec
  have hb := B.bytes
  have hr := B.returns
  have hts := atoms_spec (ws := wsX1_agree) B.pre
  have hown : s.vm.findClass RX1 = some m.cls := findClass_of_methodNamed B.named
  have hlocks := B.notSynchronized
  subst hsz
  have hD := hD0.self (sz := s.heap.size)
  generalize hAe : va_A [(k0, .inr (1, [.int mp, .int mq, .int mo, .int hc, .long ms9, .int kp, .int kq, .int kn, .int pp, .int qq, .int gg, .ref k1, .int th])), (k1, .inl (b1, 8, .inl sk))] s.heap.size = A at hD ⊢
  have hA : ∀ q : Nat, s.heap.size ≤ q → A q := fun q h => by rw [← hAe]; exact Or.inr h
  have hS : va_S A s.heap s.heap [] := va_S.rf
  have hl := lv_entry ([.ref k0, .int x, .int y]) (n := 5) (Nat.le_of_ble_eq_true rfl)
  rw [lg_entry_eq]
  generalize (lg_sl ([.ref k0, .int x, .int y]) ++ List.replicate (5 - (lg_sl ([.ref k0, .int x, .int y])).length) Slot.unset).toArray = ls at hl ⊢
  have hl : lv_has ls 5 [(0, .ref k0), (1, .int x), (2, .int y)] := hl
  refine lv_aload_n hx hb dX1_agree_0 rfl (lv_at hl 0 rfl) ?_
  refine lv_aload_n hx hb dX1_agree_1 rfl (lv_at hl 0 rfl) ?_
  refine lv_iload_n hx hb dX1_agree_2 rfl (lv_at hl 1 rfl) ?_
  have hPc := hP.sub (ws' := [(k0, .inr (1, [.int mp, .int mq, .int mo, .int hc, .long ms9, .int kp, .int kq, .int kn, .int pp, .int qq, .int gg, .ref k1, .int th])), (k1, .inl (b1, 8, .inl sk))]) [0, 1] rfl
  have hKc := hK.sub (tys' := [(b1, .int)]) [0] rfl
  refine vp_callSi (W.runV (As := [.int x]) (rest := [.ref k0]) ⟨hx, hb, hml, hown, hts⟩ (dk_m_hasKey l dC dI k0 k1 b1 mp mq mo hc ms9 kp kq kn pp qq gg th sk x (fun j hj => (hIK j hj).imp id (fun q => q.2.1))) (cwV 1 hts gX1_agree_X1_hasKey rfl rfl rfl (by decide +kernel) ⟨Nat.le_of_ble_eq_true rfl, Nat.le_of_ble_eq_true rfl⟩) ⟨fun a U g mk q => by obtain ⟨q0, qP, qK⟩ := q; exact ⟨q0, qP, va_K.moved (u := U) (U := U.calling g mk a) (Vm.Alike.refl U.vm) qK⟩, va_recv hKc hPc (ci := 1) (q0 := 0) rfl rfl, fun U hU hW => ⟨rfl, by rw [hU]; exact hPc, va_K.moved hW.alike hKc⟩⟩ rfl rfl hl.1 rfl (lv_room (Nat.le_of_ble_eq_true rfl)) dX1_agree_3 ⟨Nat.le_of_ble_eq_true rfl, Nat.le_of_ble_eq_true rfl⟩) (fun r_3 hr_3 => ?_)
  subst hr_3
  refine lv_if_ne (tgt := 13) hx hb dX1_agree_6 (by decide) (fun c_6 => ?_) (fun c_6 => ?_)
  · have hhk : dk_hk sk x := by
      by_cases q : dk_hk sk x
      · exact q
      · exact absurd (if_neg q) c_6
    obtain ⟨j, hj, rfl⟩ := dk_sl_of.mp hhk.1
    have hse : ¬ sk j = 0 := (dk_hk_nI hj).mp hhk
    obtain ⟨hdp, hex0⟩ := (hIK j hj).resolve_left hse
    obtain ⟨P, Q9, G, hP9, hQ9, hdom, rfl, rfl, rfl⟩ := hI.resolve_left (fun q => hdp q.1)
    obtain ⟨hs1, hs2, hs3, hs4, hs5, hs6⟩ := dk_dom_sz hP9 hdom
    obtain ⟨x9, hx91, hx92, hx93⟩ := dk_ex_of hQ9 hex0
    refine lv_iload_n hx hb dX1_agree_13 rfl (lv_at hl 2 rfl) ?_
    refine lv_iconst (v := 2) hx hb dX1_agree_14 (by decide) ?_
    refine lv_icmp_lt (tgt := 28) hx hb dX1_agree_15 (by decide) (fun c_15 => ?_) (fun c_15 => ?_)
    · have hnp : ¬ dk_pe y (nI P) := fun q => dk_not_lt.mpr q.1 c_15
      refine lv_iconst (v := 2) hx hb dX1_agree_28 (by decide) ?_
      refine lv_goto (tgt := 33) hx hb dX1_agree_29 (by decide) ?_
      refine va_put (D := (dC, dI)) (ci := 1) (v := .int 2) (ty := .int) (C := RX1) (T := TX1) (N := 13) hx hb hts (by decide +kernel) tyX1 tyX1_ok nmX1 hown hK hP hD hS 0 rfl rfl 12 (by decide) (hts (.fieldLink RX1 13 "DomainKeysModel" "thrown" "I") (by decide +kernel)) (fun _ h9 => h9) rfl (by decide +kernel) rfl rfl (Nat.le_of_ble_eq_true rfl) dX1_agree_33 (fun H locs hP hD hS => ?_)
      have hP : va_P (dC, dI) vwCl [(k0, .inr (1, [.int mp, .int mq, .int mo, .int hc, .long ms9, .int kp, .int kq, .int kn, .int (nI P), .int (nI Q9), .int (nI G), .ref k1, .int 2])), (k1, .inl (b1, 8, .inl sk))] H := hP
      have hD : va_D A [(k0, .inr (1, [.int mp, .int mq, .int mo, .int hc, .long ms9, .int kp, .int kq, .int kn, .int (nI P), .int (nI Q9), .int (nI G), .ref k1, .int 2])), (k1, .inl (b1, 8, .inl sk))] := hD
      refine lv_aload_n hx hb dX1_agree_36 rfl (lv_at hl 0 rfl) ?_
      refine va_get (D := (dC, dI)) (ci := 1) (v := .int 2) (C := RX1) (T := TX1) (N := 13) hx hb hts (by decide +kernel) hown hK hP 0 rfl rfl 12 (by decide) (hts (.fieldLink RX1 13 "DomainKeysModel" "thrown" "I") (by decide +kernel)) (fun _ h9 => h9) rfl dX1_agree_37 ?_
      refine lv_if_eq (tgt := 45) hx hb dX1_agree_40 (by decide) (fun c_40 => ?_) (fun c_40 => ?_)
      · exact absurd c_40 (by decide)
      · refine lv_iconst (v := 0) hx hb dX1_agree_43 (by decide) ?_
        exact W.iret (v := 0) hx hb hr (fun t ht hW => ⟨⟨0, (mp, mq, mo, hc, ms9, kp, kq, kn, nI P, nI Q9, nI G, 2, sk), rfl, ⟨2, by rw [dk_fagr, if_neg (fun q => q hhk), if_pos hnp], rfl⟩, by rw [ht]; exact hP, va_K.moved hW.alike hK, hD⟩, hS.F ht⟩) hS.2.2 dX1_agree_44
    · refine lv_iload_n hx hb dX1_agree_18 rfl (lv_at hl 2 rfl) ?_
      refine lv_aload_n hx hb dX1_agree_19 rfl (lv_at hl 0 rfl) ?_
      refine va_get (D := (dC, dI)) (ci := 1) (v := .int (nI P)) (C := RX1) (T := TX1) (N := 13) hx hb hts (by decide +kernel) hown hK hP 0 rfl rfl 8 (by decide) (hts (.fieldLink RX1 73 "DomainKeysModel" "p" "I") (by decide +kernel)) (fun _ h9 => h9) rfl dX1_agree_20 ?_
      refine lv_iconst (v := 2) hx hb dX1_agree_23 (by decide) ?_
      refine lv_isub hx hb dX1_agree_24 ?_
      refine lv_icmp_le (tgt := 32) hx hb dX1_agree_25 (by decide) (fun c_25 => ?_) (fun c_25 => ?_)
      · have hpe : dk_pe y (nI P) := ⟨dk_not_lt.mp c_15, c_25⟩
        obtain ⟨y9, hy1, hy2, rfl⟩ := (dk_pe_of (by omega) hP9).mp hpe
        have hyl : y9 ^ x9 % P < P := Nat.mod_lt _ (by omega)
        have hag : dk_pw (nI y9) (sk (dk_n (nI j))) (nI P) = nI (y9 ^ x9 % P) := by
          rw [dk_n_nI (by omega), hx93, dk_pw_nI (by omega) (by omega) hP9]
        refine lv_iconst (v := 0) hx hb dX1_agree_32 (by decide) ?_
        refine va_put (D := (dC, dI)) (ci := 1) (v := .int 0) (ty := .int) (C := RX1) (T := TX1) (N := 13) hx hb hts (by decide +kernel) tyX1 tyX1_ok nmX1 hown hK hP hD hS 0 rfl rfl 12 (by decide) (hts (.fieldLink RX1 13 "DomainKeysModel" "thrown" "I") (by decide +kernel)) (fun _ h9 => h9) rfl (by decide +kernel) rfl rfl (Nat.le_of_ble_eq_true rfl) dX1_agree_33 (fun H locs hP hD hS => ?_)
        have hP : va_P (dC, dI) vwCl [(k0, .inr (1, [.int mp, .int mq, .int mo, .int hc, .long ms9, .int kp, .int kq, .int kn, .int (nI P), .int (nI Q9), .int (nI G), .ref k1, .int 0])), (k1, .inl (b1, 8, .inl sk))] H := hP
        have hD : va_D A [(k0, .inr (1, [.int mp, .int mq, .int mo, .int hc, .long ms9, .int kp, .int kq, .int kn, .int (nI P), .int (nI Q9), .int (nI G), .ref k1, .int 0])), (k1, .inl (b1, 8, .inl sk))] := hD
        refine lv_aload_n hx hb dX1_agree_36 rfl (lv_at hl 0 rfl) ?_
        refine va_get (D := (dC, dI)) (ci := 1) (v := .int 0) (C := RX1) (T := TX1) (N := 13) hx hb hts (by decide +kernel) hown hK hP 0 rfl rfl 12 (by decide) (hts (.fieldLink RX1 13 "DomainKeysModel" "thrown" "I") (by decide +kernel)) (fun _ h9 => h9) rfl dX1_agree_37 ?_
        refine lv_if_eq (tgt := 45) hx hb dX1_agree_40 (by decide) (fun c_40 => ?_) (fun c_40 => ?_)
        · refine lv_iload_n hx hb dX1_agree_45 rfl (lv_at hl 2 rfl) ?_
          refine lv_i2l hx hb dX1_agree_46 rfl ?_
          refine lv_topl (fun v_46 ev_46 => ?_)
          have ev_46 : v_46 = lN y9 := ev_46.trans (nI_l (by omega))
          subst ev_46
          refine lv_aload_n hx hb dX1_agree_47 rfl (lv_at hl 0 rfl) ?_
          refine va_get (D := (dC, dI)) (ci := 1) (v := .ref k1) (C := RX1) (T := TX1) (N := 13) hx hb hts (by decide +kernel) hown hK hP 0 rfl rfl 11 (by decide) (hts (.fieldLink RX1 7 "DomainKeysModel" "secrets" "[I") (by decide +kernel)) (fun _ h9 => h9) rfl dX1_agree_48 ?_
          refine lv_iload_n hx hb dX1_agree_51 rfl (lv_at hl 1 rfl) ?_
          refine va_iald hx hb hK hP 1 0 rfl rfl (vp_in_nI hj (by decide)) dX1_agree_52 ?_
          refine lv_topi (fun v_52 ev_52 => ?_)
          have ev_52 : v_52 = sk j := ev_52.trans (congrArg sk (nI_clamp (Nat.lt_trans hj (by decide))))
          subst ev_52
          refine lv_topi (fun v_52 ev_52 => ?_)
          have ev_52 : v_52 = nI x9 := ev_52.trans hx93
          subst ev_52
          refine lv_i2l hx hb dX1_agree_53 rfl ?_
          refine lv_topl (fun v_53 ev_53 => ?_)
          have ev_53 : v_53 = lN x9 := ev_53.trans (nI_l (by omega))
          subst ev_53
          refine lv_aload_n hx hb dX1_agree_54 rfl (lv_at hl 0 rfl) ?_
          refine va_get (D := (dC, dI)) (ci := 1) (v := .int (nI P)) (C := RX1) (T := TX1) (N := 13) hx hb hts (by decide +kernel) hown hK hP 0 rfl rfl 8 (by decide) (hts (.fieldLink RX1 73 "DomainKeysModel" "p" "I") (by decide +kernel)) (fun _ h9 => h9) rfl dX1_agree_55 ?_
          refine lv_i2l hx hb dX1_agree_58 rfl ?_
          refine lv_topl (fun v_58 ev_58 => ?_)
          have ev_58 : v_58 = lN P := ev_58.trans (nI_l hP9)
          subst ev_58
          refine vp_callSl (W.runS (As := [.long (lN y9), .long (lN x9), .long (lN P)]) (rest := []) ⟨hx, hb, hml, hown, hts⟩ (dk_m_power l y9 x9 P (by omega) (by omega) (by omega) hP9) (va_cwS 3 hts gX1_agree_X1_power rfl rfl rfl (by decide +kernel) ⟨Nat.le_of_ble_eq_true rfl, Nat.le_of_ble_eq_true rfl⟩) ⟨fun _ _ _ _ q9 => q9, fun U hU hW => ⟨rfl, trivial⟩⟩ rfl rfl hl.1 rfl (lv_room (Nat.le_of_ble_eq_true rfl)) dX1_agree_59 ⟨Nat.le_of_ble_eq_true rfl, Nat.le_of_ble_eq_true rfl⟩) (fun r_59 hr_59 => ?_)
          subst hr_59
          refine lv_lstore_n (lv' := [(3, .long (lN (y9 ^ x9 % P))), (0, .ref k0), (1, .int (nI j)), (2, .int (nI y9))]) hx hb dX1_agree_62 rfl hl (by decide) rfl (fun ls hl => ?_)
          refine lv_aload_n hx hb dX1_agree_63 rfl (lv_at hl 1 rfl) ?_
          refine lv_lload_n hx hb dX1_agree_64 rfl (lv_at hl 0 rfl) ?_
          refine lv_lconst (v := 1) hx hb dX1_agree_65 (by decide) ?_
          refine W.lcmp hx hb dX1_agree_66 ?_
          refine lv_if_ne (tgt := 74) hx hb dX1_agree_67 (by decide) (fun c_67 => ?_) (fun c_67 => ?_)
          · refine lv_iconst (v := 0) hx hb dX1_agree_74 (by decide) ?_
            refine va_put (D := (dC, dI)) (ci := 1) (v := .int 0) (ty := .int) (C := RX1) (T := TX1) (N := 13) hx hb hts (by decide +kernel) tyX1 tyX1_ok nmX1 hown hK hP hD hS 0 rfl rfl 12 (by decide) (hts (.fieldLink RX1 13 "DomainKeysModel" "thrown" "I") (by decide +kernel)) (fun _ h9 => h9) rfl (by decide +kernel) rfl rfl (Nat.le_of_ble_eq_true rfl) dX1_agree_75 (fun H locs hP hD hS => ?_)
            have hP : va_P (dC, dI) vwCl [(k0, .inr (1, [.int mp, .int mq, .int mo, .int hc, .long ms9, .int kp, .int kq, .int kn, .int (nI P), .int (nI Q9), .int (nI G), .ref k1, .int 0])), (k1, .inl (b1, 8, .inl sk))] H := hP
            have hD : va_D A [(k0, .inr (1, [.int mp, .int mq, .int mo, .int hc, .long ms9, .int kp, .int kq, .int kn, .int (nI P), .int (nI Q9), .int (nI G), .ref k1, .int 0])), (k1, .inl (b1, 8, .inl sk))] := hD
            refine lv_aload_n hx hb dX1_agree_78 rfl (lv_at hl 1 rfl) ?_
            refine va_get (D := (dC, dI)) (ci := 1) (v := .int 0) (C := RX1) (T := TX1) (N := 13) hx hb hts (by decide +kernel) hown hK hP 0 rfl rfl 12 (by decide) (hts (.fieldLink RX1 13 "DomainKeysModel" "thrown" "I") (by decide +kernel)) (fun _ h9 => h9) rfl dX1_agree_79 ?_
            refine lv_if_ne (tgt := 90) hx hb dX1_agree_82 (by decide) (fun c_82 => ?_) (fun c_82 => ?_)
            · exact absurd rfl c_82
            · refine lv_lload_n hx hb dX1_agree_85 rfl (lv_at hl 0 rfl) ?_
              refine lv_l2i hx hb dX1_agree_86 rfl ?_
              refine lv_topi (fun v_86 ev_86 => ?_)
              have ev_86 : v_86 = nI (y9 ^ x9 % P) := ev_86.trans (lN_i _)
              subst ev_86
              refine lv_goto (tgt := 91) hx hb dX1_agree_87 (by decide) ?_
              exact W.iret (v := (nI (y9 ^ x9 % P))) hx hb hr (fun t ht hW => ⟨⟨nI (y9 ^ x9 % P), (mp, mq, mo, hc, ms9, kp, kq, kn, nI P, nI Q9, nI G, 0, sk), rfl, ⟨0, by rw [dk_fagr, if_neg (fun q => q hhk), if_neg (fun q => q hpe), if_neg (show ¬ dk_pw (nI y9) (sk (dk_n (nI j))) (nI P) = 1 from fun q => c_67 ((lg_cmp_eq _ _).mpr (congrArg lN ((nI_eq (b := 1) (by omega) (by omega)).mp (hag.symm.trans q))))), hag], rfl⟩, by rw [ht]; exact hP, va_K.moved hW.alike hK, hD⟩, hS.F ht⟩) hS.2.2 dX1_agree_91
          · refine lv_iconst (v := 3) hx hb dX1_agree_70 (by decide) ?_
            refine lv_goto (tgt := 75) hx hb dX1_agree_71 (by decide) ?_
            refine va_put (D := (dC, dI)) (ci := 1) (v := .int 3) (ty := .int) (C := RX1) (T := TX1) (N := 13) hx hb hts (by decide +kernel) tyX1 tyX1_ok nmX1 hown hK hP hD hS 0 rfl rfl 12 (by decide) (hts (.fieldLink RX1 13 "DomainKeysModel" "thrown" "I") (by decide +kernel)) (fun _ h9 => h9) rfl (by decide +kernel) rfl rfl (Nat.le_of_ble_eq_true rfl) dX1_agree_75 (fun H locs hP hD hS => ?_)
            have hP : va_P (dC, dI) vwCl [(k0, .inr (1, [.int mp, .int mq, .int mo, .int hc, .long ms9, .int kp, .int kq, .int kn, .int (nI P), .int (nI Q9), .int (nI G), .ref k1, .int 3])), (k1, .inl (b1, 8, .inl sk))] H := hP
            have hD : va_D A [(k0, .inr (1, [.int mp, .int mq, .int mo, .int hc, .long ms9, .int kp, .int kq, .int kn, .int (nI P), .int (nI Q9), .int (nI G), .ref k1, .int 3])), (k1, .inl (b1, 8, .inl sk))] := hD
            refine lv_aload_n hx hb dX1_agree_78 rfl (lv_at hl 1 rfl) ?_
            refine va_get (D := (dC, dI)) (ci := 1) (v := .int 3) (C := RX1) (T := TX1) (N := 13) hx hb hts (by decide +kernel) hown hK hP 0 rfl rfl 12 (by decide) (hts (.fieldLink RX1 13 "DomainKeysModel" "thrown" "I") (by decide +kernel)) (fun _ h9 => h9) rfl dX1_agree_79 ?_
            refine lv_if_ne (tgt := 90) hx hb dX1_agree_82 (by decide) (fun c_82 => ?_) (fun c_82 => ?_)
            · refine lv_iconst (v := 0) hx hb dX1_agree_90 (by decide) ?_
              exact W.iret (v := 0) hx hb hr (fun t ht hW => ⟨⟨0, (mp, mq, mo, hc, ms9, kp, kq, kn, nI P, nI Q9, nI G, 3, sk), rfl, ⟨3, by rw [dk_fagr, if_neg (fun q => q hhk), if_neg (fun q => q hpe), if_pos (hag.trans (by rw [(pk_lEQ (b := 1) (by omega) (by omega)).mp ((lg_cmp_eq _ _).mp c_67)]; rfl))], rfl⟩, by rw [ht]; exact hP, va_K.moved hW.alike hK, hD⟩, hS.F ht⟩) hS.2.2 dX1_agree_91
            · exact absurd c_82 (by decide)
        · exact absurd rfl c_40
      · have hnp : ¬ dk_pe y (nI P) := fun q => c_25 q.2
        refine lv_iconst (v := 2) hx hb dX1_agree_28 (by decide) ?_
        refine lv_goto (tgt := 33) hx hb dX1_agree_29 (by decide) ?_
        refine va_put (D := (dC, dI)) (ci := 1) (v := .int 2) (ty := .int) (C := RX1) (T := TX1) (N := 13) hx hb hts (by decide +kernel) tyX1 tyX1_ok nmX1 hown hK hP hD hS 0 rfl rfl 12 (by decide) (hts (.fieldLink RX1 13 "DomainKeysModel" "thrown" "I") (by decide +kernel)) (fun _ h9 => h9) rfl (by decide +kernel) rfl rfl (Nat.le_of_ble_eq_true rfl) dX1_agree_33 (fun H locs hP hD hS => ?_)
        have hP : va_P (dC, dI) vwCl [(k0, .inr (1, [.int mp, .int mq, .int mo, .int hc, .long ms9, .int kp, .int kq, .int kn, .int (nI P), .int (nI Q9), .int (nI G), .ref k1, .int 2])), (k1, .inl (b1, 8, .inl sk))] H := hP
        have hD : va_D A [(k0, .inr (1, [.int mp, .int mq, .int mo, .int hc, .long ms9, .int kp, .int kq, .int kn, .int (nI P), .int (nI Q9), .int (nI G), .ref k1, .int 2])), (k1, .inl (b1, 8, .inl sk))] := hD
        refine lv_aload_n hx hb dX1_agree_36 rfl (lv_at hl 0 rfl) ?_
        refine va_get (D := (dC, dI)) (ci := 1) (v := .int 2) (C := RX1) (T := TX1) (N := 13) hx hb hts (by decide +kernel) hown hK hP 0 rfl rfl 12 (by decide) (hts (.fieldLink RX1 13 "DomainKeysModel" "thrown" "I") (by decide +kernel)) (fun _ h9 => h9) rfl dX1_agree_37 ?_
        refine lv_if_eq (tgt := 45) hx hb dX1_agree_40 (by decide) (fun c_40 => ?_) (fun c_40 => ?_)
        · exact absurd c_40 (by decide)
        · refine lv_iconst (v := 0) hx hb dX1_agree_43 (by decide) ?_
          exact W.iret (v := 0) hx hb hr (fun t ht hW => ⟨⟨0, (mp, mq, mo, hc, ms9, kp, kq, kn, nI P, nI Q9, nI G, 2, sk), rfl, ⟨2, by rw [dk_fagr, if_neg (fun q => q hhk), if_pos hnp], rfl⟩, by rw [ht]; exact hP, va_K.moved hW.alike hK, hD⟩, hS.F ht⟩) hS.2.2 dX1_agree_44
  · have hnk : ¬ dk_hk sk x := fun q => by
      rw [if_pos q] at c_6
      exact absurd c_6 (by decide)
    refine lv_iconst (v := 1) hx hb dX1_agree_9 (by decide) ?_
    refine lv_goto (tgt := 33) hx hb dX1_agree_10 (by decide) ?_
    refine va_put (D := (dC, dI)) (ci := 1) (v := .int 1) (ty := .int) (C := RX1) (T := TX1) (N := 13) hx hb hts (by decide +kernel) tyX1 tyX1_ok nmX1 hown hK hP hD hS 0 rfl rfl 12 (by decide) (hts (.fieldLink RX1 13 "DomainKeysModel" "thrown" "I") (by decide +kernel)) (fun _ h9 => h9) rfl (by decide +kernel) rfl rfl (Nat.le_of_ble_eq_true rfl) dX1_agree_33 (fun H locs hP hD hS => ?_)
    have hP : va_P (dC, dI) vwCl [(k0, .inr (1, [.int mp, .int mq, .int mo, .int hc, .long ms9, .int kp, .int kq, .int kn, .int pp, .int qq, .int gg, .ref k1, .int 1])), (k1, .inl (b1, 8, .inl sk))] H := hP
    have hD : va_D A [(k0, .inr (1, [.int mp, .int mq, .int mo, .int hc, .long ms9, .int kp, .int kq, .int kn, .int pp, .int qq, .int gg, .ref k1, .int 1])), (k1, .inl (b1, 8, .inl sk))] := hD
    refine lv_aload_n hx hb dX1_agree_36 rfl (lv_at hl 0 rfl) ?_
    refine va_get (D := (dC, dI)) (ci := 1) (v := .int 1) (C := RX1) (T := TX1) (N := 13) hx hb hts (by decide +kernel) hown hK hP 0 rfl rfl 12 (by decide) (hts (.fieldLink RX1 13 "DomainKeysModel" "thrown" "I") (by decide +kernel)) (fun _ h9 => h9) rfl dX1_agree_37 ?_
    refine lv_if_eq (tgt := 45) hx hb dX1_agree_40 (by decide) (fun c_40 => ?_) (fun c_40 => ?_)
    · exact absurd c_40 (by decide)
    · refine lv_iconst (v := 0) hx hb dX1_agree_43 (by decide) ?_
      exact W.iret (v := 0) hx hb hr (fun t ht hW => ⟨⟨0, (mp, mq, mo, hc, ms9, kp, kq, kn, pp, qq, gg, 1, sk), rfl, ⟨1, by rw [dk_fagr, if_pos hnk], rfl⟩, by rw [ht]; exact hP, va_K.moved hW.alike hK, hD⟩, hS.F ht⟩) hS.2.2 dX1_agree_44
