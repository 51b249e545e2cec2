set_option maxHeartbeats 4000000 in
set_option maxRecDepth 100000 in
theorem dk_m_init (l : Launch) (dC : Nat → ClassId) (dI : Nat → Nat → Nat) (k0 : Nat) (sz : Nat) : Met l yX1_init wsX1_init ({ frames := 1, cells := 1, slots := 8, locals := 12 }) (va_Pc [.ref k0] (fun U => U.heap.size = sz ∧ va_P (dC, dI) vwCl [(k0, .inr (1, [.int 0, .int 0, .int 0, .int 0, .long 0, .int 0, .int 0, .int 0, .int 0, .int 0, .int 0, .null, .int 0]))] U.heap ∧ va_K (dC, dI) vwCl [] U ∧ va_D (fun _ => True) [(k0, .inr (1, [.int 0, .int 0, .int 0, .int 0, .long 0, .int 0, .int 0, .int 0, .int 0, .int 0, .int 0, .null, .int 0]))])) (va_Qv (fun u9 : dk_T => u9 = (0, 0, 0, 0, 0, 0, 0, 0, 0, 0, 0, 0, (fun _ => 0))) (fun u9 t9 => ∃ (k1 : Nat) (b1 : ClassId), dk_C dC dI (va_A [(k0, .inr (1, [.int 0, .int 0, .int 0, .int 0, .long 0, .int 0, .int 0, .int 0, .int 0, .int 0, .int 0, .null, .int 0]))] sz) k0 k1 b1 u9 t9) (va_A [(k0, .inr (1, [.int 0, .int 0, .int 0, .int 0, .long 0, .int 0, .int 0, .int 0, .int 0, .int 0, .int 0, .null, .int 0]))] sz)) 1 8 (va_A [(k0, .inr (1, [.int 0, .int 0, .int 0, .int 0, .long 0, .int 0, .int 0, .int 0, .int 0, .int 0, .int 0, .null, .int 0]))] sz) := by
  refine Met.ofW (cc := cX1_init) (maxL := 1) (ret := none) (by decide) rfl ?_
  intro p e s m args below meth c s₁ B hml hv
  obtain ⟨rfl, hsz, hP, hK, hD0⟩ := hv
  have hx := B.exec
  have hb := B.bytes
  have hr := B.returns
  have hts := atoms_spec (ws := wsX1_init) B.pre
  have hown : s.vm.findClass RX1 = some m.cls := findClass_of_methodNamed B.named
  have hlocks := B.notSynchronized
  have hin : meth.name = "<init>" := (name_of_methodNamed B.named B.method).1
  subst hsz
  have hD := hD0.self (sz := s.heap.size)
  generalize hAe : va_A [(k0, .inr (1, [.int 0, .int 0, .int 0, .int 0, .long 0, .int 0, .int 0, .int 0, .int 0, .int 0, .int 0, .null, .int 0]))] s.heap.size = A at hD ⊢
  have hA : ∀ q : Nat, s.heap.size ≤ q → A q := fun q h => by rw [← hAe]; exact Or.inr h
  have hS : va_S A s.heap s.heap [] := va_S.rf
  have hl := lv_entry ([.ref k0]) (n := 1) (Nat.le_of_ble_eq_true rfl)
  rw [lg_entry_eq]
  generalize (lg_sl ([.ref k0]) ++ List.replicate (1 - (lg_sl ([.ref k0])).length) Slot.unset).toArray = ls at hl ⊢
  have hl : lv_has ls 1 [(0, .ref k0)] := hl
  refine lv_aload_n hx hb dX1_init_0 rfl (lv_at hl 0 rfl) ?_
  refine W.objInit hx hb hown (hts (.methodLink RX1 1 objectInit) (by decide +kernel)) (hts (.instanceMethod objectInit) (by decide +kernel)) (hts _ (List.mem_cons_of_mem _ (List.mem_append_left _ (List.mem_of_getElem? (i := 2) rfl)))) rfl (by rw [hml]; exact hl.1) rfl dX1_init_1 (Nat.le_of_ble_eq_true rfl) (Nat.le_of_ble_eq_true rfl) ?_
  refine W.eq (g2 := F0 m 4 ls []) rfl ?_
  refine lv_aload_n hx hb dX1_init_4 rfl (lv_at hl 0 rfl) ?_
  refine lv_bipush (v := 8) hx hb dX1_init_5 (by decide) ?_
  refine va_newa (atype := .int) (N' := 8) (a0 := (8, .inl (fun _ => 0))) (ty := .int) (n := 8) hx hb (hts (.arrayClass .int) (by decide +kernel)) rfl hK hP hD hS hA (fun _ => rfl) (by decide) (by decide) (by decide) (Nat.le_of_ble_eq_true rfl) (Nat.le_of_ble_eq_true rfl) dX1_init_7 (fun q_7 cA_7 H hK hP hD hS => ?_)
  have hP : va_P (dC, dI) vwCl [(k0, .inr (1, [.int 0, .int 0, .int 0, .int 0, .long 0, .int 0, .int 0, .int 0, .int 0, .int 0, .int 0, .null, .int 0])), (q_7, .inl (cA_7, 8, .inl (fun _ => 0)))] H := hP
  have hD : va_D A [(k0, .inr (1, [.int 0, .int 0, .int 0, .int 0, .long 0, .int 0, .int 0, .int 0, .int 0, .int 0, .int 0, .null, .int 0])), (q_7, .inl (cA_7, 8, .inl (fun _ => 0)))] := hD
  have hK : va_K (dC, dI) vwCl [(cA_7, .int)] s := hK
  refine W.widen (k := 1) (n := 8) (Nat.le_of_ble_eq_true rfl) (Nat.le_of_ble_eq_true rfl) ?_
  refine va_putF (D := (dC, dI)) (ci := 1) (v := .ref q_7) (ty := .array .int) (C := RX1) (T := TX1) (N := 13) hx hb hts (by decide +kernel) tyX1 tyX1_ok nmX1 hown hK hP hD hS 0 rfl rfl 11 (by decide) (hts (.fieldLink RX1 7 "DomainKeysModel" "secrets" "[I") (by decide +kernel)) (fun _ h9 => h9) rfl hin rfl (by decide +kernel) rfl rfl (Nat.le_of_ble_eq_true rfl) dX1_init_9 (fun H locs hP hD hS => ?_)
  have hP : va_P (dC, dI) vwCl [(k0, .inr (1, [.int 0, .int 0, .int 0, .int 0, .long 0, .int 0, .int 0, .int 0, .int 0, .int 0, .int 0, .ref q_7, .int 0])), (q_7, .inl (cA_7, 8, .inl (fun _ => 0)))] H := hP
  have hD : va_D A [(k0, .inr (1, [.int 0, .int 0, .int 0, .int 0, .long 0, .int 0, .int 0, .int 0, .int 0, .int 0, .int 0, .ref q_7, .int 0])), (q_7, .inl (cA_7, 8, .inl (fun _ => 0)))] := hD
  exact W.vret hx hb hr (fun t ht hW => ⟨⟨(0, 0, 0, 0, 0, 0, 0, 0, 0, 0, 0, 0, (fun _ => 0)), rfl, rfl, q_7, cA_7, by rw [ht]; exact hP, va_K.moved hW.alike hK, hD⟩, hS.F ht⟩) hS.2.2 dX1_init_12

set_option maxHeartbeats 4000000 in
set_option maxRecDepth 100000 in
theorem dk_m_thrown (l : Launch) (dC : Nat → ClassId) (dI : Nat → Nat → Nat) (k0 k1 : Nat) (b1 : ClassId) (mp mq mo hc : Int32) (ms9 : Int64) (kp kq kn pp qq gg th : Int32) (sk : Nat → Int32)  : Met l yX1_thrown wsX1_thrown ({ frames := 0, cells := 0, slots := 0, locals := 0 }) (va_Pc [.ref k0] (fun U => va_P (dC, dI) vwCl [(k0, .inr (1, [.int mp, .int mq, .int mo, .int hc, .long ms9, .int kp, .int kq, .int kn, .int pp, .int qq, .int gg, .ref k1, .int th])), (k1, .inl (b1, 8, .inl sk))] U.heap ∧ va_K (dC, dI) vwCl [(b1, .int)] U)) (vp_Si (fun r9 => r9 = th)) 0 0 (fun _ => False) := by
  refine Met.ofW (cc := cX1_thrown) (maxL := 1) (ret := (some .int)) (by decide) rfl ?_
  intro p e s m args below meth c s₁ B hml hv
  obtain ⟨rfl, hP, hK⟩ := hv
  have hx := B.exec
  have hb := B.bytes
  have hr := B.returns
  have hts := atoms_spec (ws := wsX1_thrown) B.pre
  have hown : s.vm.findClass RX1 = some m.cls := findClass_of_methodNamed B.named
  have hlocks := B.notSynchronized
  have hl := lv_entry ([.ref k0]) (n := 1) (Nat.le_of_ble_eq_true rfl)
  rw [lg_entry_eq]
  generalize (lg_sl ([.ref k0]) ++ List.replicate (1 - (lg_sl ([.ref k0])).length) Slot.unset).toArray = ls at hl ⊢
  have hl : lv_has ls 1 [(0, .ref k0)] := hl
  refine lv_aload_n hx hb dX1_thrown_0 rfl (lv_at hl 0 rfl) ?_
  refine va_get (D := (dC, dI)) (ci := 1) (v := .int th) (C := RX1) (T := TX1) (N := 13) hx hb hts (by decide +kernel) hown hK hP 0 rfl rfl 12 (by decide) (hts (.fieldLink RX1 13 "DomainKeysModel" "thrown" "I") (by decide +kernel)) (fun _ h9 => h9) rfl dX1_thrown_1 ?_
  exact W.iret (v := th) hx hb hr (fun t ht hW => ⟨_, rfl, rfl, ht⟩) (fun q h => nomatch h) dX1_thrown_4

set_option maxHeartbeats 4000000 in
set_option maxRecDepth 100000 in
theorem dk_m_hasKey (l : Launch) (dC : Nat → ClassId) (dI : Nat → Nat → Nat) (k0 k1 : Nat) (b1 : ClassId) (mp mq mo hc : Int32) (ms9 : Int64) (kp kq kn pp qq gg th : Int32) (sk : Nat → Int32) (x : Int32) (hpo : ∀ j, j < 8 → sk j = 0 ∨ 1 ≤ sk j) : Met l yX1_hasKey wsX1_hasKey ({ frames := 0, cells := 0, slots := 0, locals := 0 }) (va_Pc [.ref k0, .int x] (fun U => va_P (dC, dI) vwCl [(k0, .inr (1, [.int mp, .int mq, .int mo, .int hc, .long ms9, .int kp, .int kq, .int kn, .int pp, .int qq, .int gg, .ref k1, .int th])), (k1, .inl (b1, 8, .inl sk))] U.heap ∧ va_K (dC, dI) vwCl [(b1, .int)] U)) (vp_Si (fun r9 => r9 = if dk_hk sk x then 1 else 0)) 0 0 (fun _ => False) := by
  refine Met.ofW (cc := cX1_hasKey) (maxL := 2) (ret := (some .boolean)) (by decide) rfl ?_
  intro p e s m args below meth c s₁ B hml hv
  obtain ⟨rfl, hP, hK⟩ := hv
  have hx := B.exec
  have hb := B.bytes
  have hr := B.returns
  have hts := atoms_spec (ws := wsX1_hasKey) B.pre
  have hown : s.vm.findClass RX1 = some m.cls := findClass_of_methodNamed B.named
  have hlocks := B.notSynchronized
  have hl := lv_entry ([.ref k0, .int x]) (n := 2) (Nat.le_of_ble_eq_true rfl)
  rw [lg_entry_eq]
  generalize (lg_sl ([.ref k0, .int x]) ++ List.replicate (2 - (lg_sl ([.ref k0, .int x])).length) Slot.unset).toArray = ls at hl ⊢
  have hl : lv_has ls 2 [(0, .ref k0), (1, .int x)] := hl
  refine lv_iload_n hx hb dX1_hasKey_0 rfl (lv_at hl 1 rfl) ?_
  refine lv_if_lt (tgt := 23) hx hb dX1_hasKey_1 (by decide) (fun c_1 => ?_) (fun c_1 => ?_)
  · have hno : ¬ dk_hk sk x := fun q => dk_not_lt.mpr q.1.1 c_1
    refine lv_iconst (v := 0) hx hb dX1_hasKey_23 (by decide) ?_
    exact W.zret (v := 0) (ty := .boolean) hx hb hr rfl (fun t ht hW => ⟨_, rfl, (if_neg hno).symm, ht⟩) (fun q h => nomatch h) dX1_hasKey_24
  · refine lv_iload_n hx hb dX1_hasKey_4 rfl (lv_at hl 1 rfl) ?_
    refine lv_bipush (v := 7) hx hb dX1_hasKey_5 (by decide) ?_
    refine lv_icmp_gt (tgt := 23) hx hb dX1_hasKey_7 (by decide) (fun c_7 => ?_) (fun c_7 => ?_)
    · have hno : ¬ dk_hk sk x := fun q => by
        obtain ⟨j, q1, rfl⟩ := dk_sl_of.mp q.1
        have := (nI_ltI (a := 7) (by omega) (by omega)).mp c_7
        omega
      refine lv_iconst (v := 0) hx hb dX1_hasKey_23 (by decide) ?_
      exact W.zret (v := 0) (ty := .boolean) hx hb hr rfl (fun t ht hW => ⟨_, rfl, (if_neg hno).symm, ht⟩) (fun q h => nomatch h) dX1_hasKey_24
    · obtain ⟨j, hj, rfl⟩ : ∃ j : Nat, j < 8 ∧ x = nI j := by
        rcases pk_ix x (n := 8) (by decide) with q | q | q
        · exact absurd q c_1
        · exact absurd (Int32.lt_of_lt_of_le (by decide) q) c_7
        · exact q
      refine lv_aload_n hx hb dX1_hasKey_10 rfl (lv_at hl 0 rfl) ?_
      refine va_get (D := (dC, dI)) (ci := 1) (v := .ref k1) (C := RX1) (T := TX1) (N := 13) hx hb hts (by decide +kernel) hown hK hP 0 rfl rfl 11 (by decide) (hts (.fieldLink RX1 7 "DomainKeysModel" "secrets" "[I") (by decide +kernel)) (fun _ h9 => h9) rfl dX1_hasKey_11 ?_
      refine lv_iload_n hx hb dX1_hasKey_14 rfl (lv_at hl 1 rfl) ?_
      refine va_iald hx hb hK hP 1 0 rfl rfl (vp_in_nI hj (by decide)) dX1_hasKey_15 ?_
      refine lv_topi (fun v_15 ev_15 => ?_)
      have ev_15 : v_15 = sk j := ev_15.trans (congrArg sk (nI_clamp (Nat.lt_trans hj (by decide))))
      subst ev_15
      refine lv_if_le (tgt := 23) hx hb dX1_hasKey_16 (by decide) (fun c_16 => ?_) (fun c_16 => ?_)
      · have hno : ¬ dk_hk sk (nI j) := fun q => by
          rcases hpo j hj with q1 | q1
          · exact (dk_hk_nI hj).mp q q1
          · exact dk_not_lt.mpr (Int32.le_trans q1 c_16) (by decide)
        refine lv_iconst (v := 0) hx hb dX1_hasKey_23 (by decide) ?_
        exact W.zret (v := 0) (ty := .boolean) hx hb hr rfl (fun t ht hW => ⟨_, rfl, (if_neg hno).symm, ht⟩) (fun q h => nomatch h) dX1_hasKey_24
      · have hyes : dk_hk sk (nI j) := (dk_hk_nI hj).mpr (fun q => c_16 (by rw [q]; decide))
        refine lv_iconst (v := 1) hx hb dX1_hasKey_19 (by decide) ?_
        refine lv_goto (tgt := 24) hx hb dX1_hasKey_20 (by decide) ?_
        exact W.zret (v := 1) (ty := .boolean) hx hb hr rfl (fun t ht hW => ⟨_, rfl, (if_pos hyes).symm, ht⟩) (fun q h => nomatch h) dX1_hasKey_24

theorem dk_n2 {n : Nat} (h : n < 2147483648) : ¬ (-2 : Int32) = nI n := fun q => by
  have h1 := nI_pos (n := n) h
  rw [← q] at h1
  exact h1 (by decide)
theorem dk_n1 {n : Nat} (h : n < 2147483648) : ¬ (-1 : Int32) = nI n := fun q => by
  have h1 := nI_pos (n := n) h
  rw [← q] at h1
  exact h1 (by decide)

set_option maxHeartbeats 4000000 in
set_option maxRecDepth 100000 in
theorem dk_make_loop {p : Program} {l : Launch} {e : Env} {s : State} {m : MethodId} {args : Array Value} {below : List Frame} {meth : Method} {c : Code} {Q : State → Prop} {A : Nat → Prop} (dC : Nat → ClassId) (dI : Nat → Nat → Nat) (k0 k1 : Nat) (b1 : ClassId) (mp mq mo hc : Int32) (ms9 : Int64) (kp kq kn pp qq gg th : Int32) (sk : Nat → Int32) (sd : Int64) (hpq : dk_pr (dk_q sd)) (hx : p.tables.exec = Jvm.exec) (hb : c.code = cX1_make) (hml : c.maxLocals = 10) (hown : s.vm.findClass RX1 = some m.cls) (hts : ∀ w ∈ wsX1_make, w.before args s = true) (hA : ∀ q : Nat, s.heap.size ≤ q → A q) (hK : va_K (dC, dI) vwCl [(b1, .int)] s) (kk : ∀ (mp2 r2 : Int32) (H : Heap) (locs : List Loc) (ls : Array Slot), dk_Mk sd r2 ∧ (∀ n9 : Nat, n9 < 64 → r2 = nI n9 → mp2 = nI (dk_try sd n9)) → va_P (dC, dI) vwCl [(k0, .inr (1, [.int mp2, .int (nI (dk_q sd)), .int r2, .int hc, .long ms9, .int kp, .int kq, .int kn, .int pp, .int qq, .int gg, .ref k1, .int th])), (k1, .inl (b1, 8, .inl sk))] H → va_D A [(k0, .inr (1, [.int mp2, .int (nI (dk_q sd)), .int r2, .int hc, .long ms9, .int kp, .int kq, .int kn, .int pp, .int qq, .int gg, .ref k1, .int th])), (k1, .inl (b1, 8, .inl sk))] → va_S A s.heap H locs → W p l e (headSpec wsX1_make ({ frames := 1, cells := 0, slots := 0, locals := 25 })).room s m args below meth c H locs 0 0 Q (F0 m 134 ls [])) :
    ∀ (n i9 : Nat) (H : Heap) (locs : List Loc) (ls : Array Slot), 65 ≤ i9 + n → i9 ≤ 64 → (∀ j, j < i9 → ¬ dk_ok sd j) → va_P (dC, dI) vwCl [(k0, .inr (1, [.int mp, .int (nI (dk_q sd)), .int (-2), .int hc, .long ms9, .int kp, .int kq, .int kn, .int pp, .int qq, .int gg, .ref k1, .int th])), (k1, .inl (b1, 8, .inl sk))] H → va_D A [(k0, .inr (1, [.int mp, .int (nI (dk_q sd)), .int (-2), .int hc, .long ms9, .int kp, .int kq, .int kn, .int pp, .int qq, .int gg, .ref k1, .int th])), (k1, .inl (b1, 8, .inl sk))] → va_S A s.heap H locs → lv_has ls 10 [(0, .ref k0), (1, .long sd), (5, .int (nI i9))] → W p l e (headSpec wsX1_make ({ frames := 1, cells := 0, slots := 0, locals := 25 })).room s m args below meth c H locs 0 0 Q (F0 m 44 ls []) := by
  intro n
  induction n with
  | zero =>
    intro i9 H locs ls g1 g2
    exact absurd g1 (by omega)
  | succ n ih =>
    intro i9 H locs ls g1 g2 g3 hP hD hS hl
    have htr := dk_try_in sd i9
    have hXi := dk_X_in sd i9
    have hqi := dk_q_in sd
    refine lv_iload hx hb dX1_make_44 (lv_at hl 2 rfl) ?_
    refine lv_bipush (v := 64) hx hb dX1_make_46 (by decide) ?_
    refine lv_icmp_ge (tgt := 134) hx hb dX1_make_48 (by decide) (fun c_48 => ?_) (fun c_48 => ?_)
    · have hi9 : 64 ≤ i9 := (nI_leI (by omega) (by omega)).mp c_48
      exact kk _ _ H locs ls ⟨Or.inr (Or.inr ⟨hpq, fun j hj => g3 j (by omega), rfl⟩), fun n9 q1 q2 => absurd q2 (dk_n2 (by omega))⟩ hP hD hS
    · have hi9 : i9 < 64 := by
        rcases Nat.lt_or_ge i9 64 with q | q
        · exact q
        · exact absurd ((nI_leI (a := 64) (b := i9) (by omega) (by omega)).mpr q) c_48
      refine lv_aload_n hx hb dX1_make_51 rfl (lv_at hl 0 rfl) ?_
      refine va_get (D := (dC, dI)) (ci := 1) (v := .int (-2)) (C := RX1) (T := TX1) (N := 13) hx hb hts (by decide +kernel) hown hK hP 0 rfl rfl 2 (by decide) (hts (.fieldLink RX1 38 "DomainKeysModel" "outcome" "I") (by decide +kernel)) (fun _ h9 => h9) rfl dX1_make_52 ?_
      refine lv_bipush (v := (-2)) hx hb dX1_make_55 (by decide) ?_
      refine lv_icmp_ne (tgt := 134) hx hb dX1_make_57 (by decide) (fun c_57 => ?_) (fun c_57 => ?_)
      · exact absurd rfl c_57
      · refine lv_ldc2 (v := 1073741824) hx hb hown (hts (.constantLong RX1 41 1073741824) (by decide +kernel)) dX1_make_60 ?_
        refine lv_lload_n hx hb dX1_make_63 rfl (lv_at hl 1 rfl) ?_
        refine lv_lconst (v := 1) hx hb dX1_make_64 (by decide) ?_
        refine lv_iload hx hb dX1_make_65 (lv_at hl 2 rfl) ?_
        refine lv_i2l hx hb dX1_make_67 rfl ?_
        refine lv_topl (fun v_67 ev_67 => ?_)
        have ev_67 : v_67 = lN i9 := ev_67.trans (nI_l (by omega))
        subst ev_67
        refine lv_ladd hx hb dX1_make_68 ?_
        refine lv_topl (fun v_68 ev_68 => ?_)
        have ev_68 : v_68 = lN (1 + i9) := ev_68.trans (lN_add 1 i9)
        subst ev_68
        refine vp_callSl (W.runS (As := [.long sd, .long (lN (1 + i9))]) (rest := [.long 1073741824]) ⟨hx, hb, hml, hown, hts⟩ (dk_m_h l sd (lN (1 + i9))) (va_cwS 2 hts gX1_make_X1_h rfl rfl rfl (by decide +kernel) ⟨Nat.le_of_ble_eq_true rfl, Nat.le_of_ble_eq_true rfl⟩) ⟨fun _ _ _ _ q9 => q9, fun U hU hW => ⟨rfl, trivial⟩⟩ rfl rfl hl.1 rfl (lv_room (Nat.le_of_ble_eq_true rfl)) dX1_make_69 ⟨Nat.le_of_ble_eq_true rfl, Nat.le_of_ble_eq_true rfl⟩) (fun r_69 hr_69 => ?_)
        subst hr_69
        refine lv_bipush (v := 34) hx hb dX1_make_72 (by decide) ?_
        refine lv_lushr hx hb dX1_make_74 rfl ?_
        refine lv_topl (fun v_74 ev_74 => ?_)
        have ev_74 : v_74 = lN (dk_hN sd (lN (1 + i9)) / 17179869184) := ev_74.trans (dk_hus sd _ (k := 34) (by decide))
        subst ev_74
        refine lv_ladd hx hb dX1_make_75 ?_
        refine lv_topl (fun v_75 ev_75 => ?_)
        have ev_75 : v_75 = lN (dk_X sd i9) := ev_75.trans (lN_add 1073741824 _)
        subst ev_75
        refine lv_lstore (lv' := [(6, .long (lN (dk_X sd i9))), (0, .ref k0), (1, .long sd), (5, .int (nI i9))]) hx hb dX1_make_76 hl (by decide) rfl (fun ls hl => ?_)
        refine lv_lload hx hb dX1_make_78 (lv_at hl 0 rfl) ?_
        refine lv_lload hx hb dX1_make_80 (lv_at hl 0 rfl) ?_
        refine lv_ldc2 (v := 2) hx hb hown (hts (.constantLong RX1 25 2) (by decide +kernel)) dX1_make_82 ?_
        refine lv_aload_n hx hb dX1_make_85 rfl (lv_at hl 1 rfl) ?_
        refine va_get (D := (dC, dI)) (ci := 1) (v := .int (nI (dk_q sd))) (C := RX1) (T := TX1) (N := 13) hx hb hts (by decide +kernel) hown hK hP 0 rfl rfl 1 (by decide) (hts (.fieldLink RX1 31 "DomainKeysModel" "madeQ" "I") (by decide +kernel)) (fun _ h9 => h9) rfl dX1_make_86 ?_
        refine lv_i2l hx hb dX1_make_89 rfl ?_
        refine lv_topl (fun v_89 ev_89 => ?_)
        have ev_89 : v_89 = lN (dk_q sd) := ev_89.trans (nI_l (by omega))
        subst ev_89
        refine lv_lmul hx hb dX1_make_90 ?_
        refine lv_topl (fun v_90 ev_90 => ?_)
        have ev_90 : v_90 = lN (2 * dk_q sd) := ev_90.trans (lN_mul 2 _)
        subst ev_90
        refine lv_lrem hx hb dX1_make_91 (dk_lne (by omega) (by omega)) ?_
        refine lv_topl (fun v_91 ev_91 => ?_)
        have ev_91 : v_91 = lN (dk_X sd i9 % (2 * dk_q sd)) := ev_91.trans (pk_lRem (by omega) (by omega) (by omega))
        subst ev_91
        refine lv_lsub hx hb dX1_make_92 ?_
        refine lv_topl (fun v_92 ev_92 => ?_)
        have ev_92 : v_92 = lN (dk_X sd i9 - dk_X sd i9 % (2 * dk_q sd)) := ev_92.trans (lN_sub (Nat.mod_le _ _))
        subst ev_92
        refine lv_lconst (v := 1) hx hb dX1_make_93 (by decide) ?_
        refine lv_ladd hx hb dX1_make_94 ?_
        refine lv_topl (fun v_94 ev_94 => ?_)
        have ev_94 : v_94 = lN (dk_try sd i9) := ev_94.trans (lN_1 _)
        subst ev_94
        refine lv_lstore (lv' := [(8, .long (lN (dk_try sd i9))), (6, .long (lN (dk_X sd i9))), (0, .ref k0), (1, .long sd), (5, .int (nI i9))]) hx hb dX1_make_95 hl (by decide) rfl (fun ls hl => ?_)
        refine lv_lload hx hb dX1_make_97 (lv_at hl 0 rfl) ?_
        refine lv_ldc2 (v := 1073741824) hx hb hown (hts (.constantLong RX1 41 1073741824) (by decide +kernel)) dX1_make_99 ?_
        refine W.lcmp hx hb dX1_make_102 ?_
        refine lv_if_le (tgt := 128) hx hb dX1_make_103 (by decide) (fun c_103 => ?_) (fun c_103 => ?_)
        · have hno : ¬ dk_ok sd i9 := fun q => by
            have q1 := (pk_lLE (a := dk_try sd i9) (b := 1073741824) (by omega) (by omega)).mp ((lg_cmp_le _ _).mp c_103)
            have q2 := q.1
            omega
          refine lv_iinc (v := (nI (i9 + 1))) (lv' := [(5, .int (nI (i9 + 1))), (8, .long (lN (dk_try sd i9))), (6, .long (lN (dk_X sd i9))), (0, .ref k0), (1, .long sd)]) hx hb dX1_make_128 hl (k := 4) rfl (nI_1 i9) (by decide) rfl (fun ls hl => ?_)
          refine lv_goto (tgt := 44) hx hb dX1_make_131 (by decide) ?_
          exact ih (i9 + 1) H locs ls (by omega) (by omega) (fun j hj => if q : j < i9 then g3 j q else by rw [show j = i9 by omega]; exact hno) hP hD hS (lv_sub hl [3, 4, 0] rfl)
        · have hgt : 1073741824 < dk_try sd i9 := by
            rcases Nat.lt_or_ge 1073741824 (dk_try sd i9) with q | q
            · exact q
            · exact absurd ((lg_cmp_le _ _).mpr ((pk_lLE (a := dk_try sd i9) (b := 1073741824) (by omega) (by omega)).mpr q)) c_103
          refine lv_lload hx hb dX1_make_106 (lv_at hl 0 rfl) ?_
          refine lv_l2i hx hb dX1_make_108 rfl ?_
          refine lv_topi (fun v_108 ev_108 => ?_)
          have ev_108 : v_108 = nI (dk_try sd i9) := ev_108.trans (lN_i _)
          subst ev_108
          refine vp_callSi (W.runS (As := [.int (nI (dk_try sd i9))]) (rest := []) ⟨hx, hb, hml, hown, hts⟩ (dk_m_prime l (dk_try sd i9) htr.2) (va_cwS 1 hts gX1_make_X1_prime rfl rfl rfl (by decide +kernel) ⟨Nat.le_of_ble_eq_true rfl, Nat.le_of_ble_eq_true rfl⟩) ⟨fun _ _ _ _ q9 => q9, fun U hU hW => ⟨rfl, trivial⟩⟩ rfl rfl hl.1 rfl (lv_room (Nat.le_of_ble_eq_true rfl)) dX1_make_109 ⟨Nat.le_of_ble_eq_true rfl, Nat.le_of_ble_eq_true rfl⟩) (fun r_109 hr_109 => ?_)
          refine lv_if_eq (tgt := 128) hx hb dX1_make_112 (by decide) (fun c_112 => ?_) (fun c_112 => ?_)
          · have hno : ¬ dk_ok sd i9 := fun q => by
              rcases hr_109 with ⟨q1, -⟩ | ⟨-, q1⟩
              · rw [q1] at c_112; exact absurd c_112 (by decide)
              · exact q1 q.2
            refine lv_iinc (v := (nI (i9 + 1))) (lv' := [(5, .int (nI (i9 + 1))), (8, .long (lN (dk_try sd i9))), (6, .long (lN (dk_X sd i9))), (0, .ref k0), (1, .long sd)]) hx hb dX1_make_128 hl (k := 4) rfl (nI_1 i9) (by decide) rfl (fun ls hl => ?_)
            refine lv_goto (tgt := 44) hx hb dX1_make_131 (by decide) ?_
            exact ih (i9 + 1) H locs ls (by omega) (by omega) (fun j hj => if q : j < i9 then g3 j q else by rw [show j = i9 by omega]; exact hno) hP hD hS (lv_sub hl [3, 4, 0] rfl)
          · have hok : dk_ok sd i9 := by
              rcases hr_109 with ⟨-, q1⟩ | ⟨q1, -⟩
              · exact ⟨hgt, q1⟩
              · exact absurd q1 c_112
            refine lv_aload_n hx hb dX1_make_115 rfl (lv_at hl 2 rfl) ?_
            refine lv_lload hx hb dX1_make_116 (lv_at hl 0 rfl) ?_
            refine lv_l2i hx hb dX1_make_118 rfl ?_
            refine lv_topi (fun v_118 ev_118 => ?_)
            have ev_118 : v_118 = nI (dk_try sd i9) := ev_118.trans (lN_i _)
            subst ev_118
            refine va_put (D := (dC, dI)) (ci := 1) (v := .int (nI (dk_try sd i9))) (ty := .int) (C := RX1) (T := TX1) (N := 13) hx hb hts (by decide +kernel) tyX1 tyX1_ok nmX1 hown hK hP hD hS 0 rfl rfl 0 (by decide) (hts (.fieldLink RX1 43 "DomainKeysModel" "madeP" "I") (by decide +kernel)) (fun _ h9 => h9) rfl (by decide +kernel) rfl rfl (Nat.le_of_ble_eq_true rfl) dX1_make_119 (fun H locs hP hD hS => ?_)
            have hP : va_P (dC, dI) vwCl [(k0, .inr (1, [.int (nI (dk_try sd i9)), .int (nI (dk_q sd)), .int (-2), .int hc, .long ms9, .int kp, .int kq, .int kn, .int pp, .int qq, .int gg, .ref k1, .int th])), (k1, .inl (b1, 8, .inl sk))] H := hP
            have hD : va_D A [(k0, .inr (1, [.int (nI (dk_try sd i9)), .int (nI (dk_q sd)), .int (-2), .int hc, .long ms9, .int kp, .int kq, .int kn, .int pp, .int qq, .int gg, .ref k1, .int th])), (k1, .inl (b1, 8, .inl sk))] := hD
            refine lv_aload_n hx hb dX1_make_122 rfl (lv_at hl 2 rfl) ?_
            refine lv_iload hx hb dX1_make_123 (lv_at hl 4 rfl) ?_
            refine va_put (D := (dC, dI)) (ci := 1) (v := .int (nI i9)) (ty := .int) (C := RX1) (T := TX1) (N := 13) hx hb hts (by decide +kernel) tyX1 tyX1_ok nmX1 hown hK hP hD hS 0 rfl rfl 2 (by decide) (hts (.fieldLink RX1 38 "DomainKeysModel" "outcome" "I") (by decide +kernel)) (fun _ h9 => h9) rfl (by decide +kernel) rfl rfl (Nat.le_of_ble_eq_true rfl) dX1_make_125 (fun H locs hP hD hS => ?_)
            have hP : va_P (dC, dI) vwCl [(k0, .inr (1, [.int (nI (dk_try sd i9)), .int (nI (dk_q sd)), .int (nI i9), .int hc, .long ms9, .int kp, .int kq, .int kn, .int pp, .int qq, .int gg, .ref k1, .int th])), (k1, .inl (b1, 8, .inl sk))] H := hP
            have hD : va_D A [(k0, .inr (1, [.int (nI (dk_try sd i9)), .int (nI (dk_q sd)), .int (nI i9), .int hc, .long ms9, .int kp, .int kq, .int kn, .int pp, .int qq, .int gg, .ref k1, .int th])), (k1, .inl (b1, 8, .inl sk))] := hD
            refine lv_iinc (v := (nI (i9 + 1))) (lv' := [(5, .int (nI (i9 + 1))), (8, .long (lN (dk_try sd i9))), (6, .long (lN (dk_X sd i9))), (0, .ref k0), (1, .long sd)]) hx hb dX1_make_128 hl (k := 4) rfl (nI_1 i9) (by decide) rfl (fun ls hl => ?_)
            refine lv_goto (tgt := 44) hx hb dX1_make_131 (by decide) ?_
            refine lv_iload hx hb dX1_make_44 (lv_at hl 0 rfl) ?_
            refine lv_bipush (v := 64) hx hb dX1_make_46 (by decide) ?_
            refine lv_icmp_ge (tgt := 134) hx hb dX1_make_48 (by decide) (fun c_48 => ?_) (fun c_48 => ?_)
            · exact kk _ _ H locs ls ⟨Or.inr (Or.inl ⟨hpq, i9, hi9, hok, g3, rfl⟩), fun n9 q1 q2 => by rw [(nI_eq (by omega) (by omega)).mp q2]⟩ hP hD hS
            · refine lv_aload_n hx hb dX1_make_51 rfl (lv_at hl 3 rfl) ?_
              refine va_get (D := (dC, dI)) (ci := 1) (v := .int (nI i9)) (C := RX1) (T := TX1) (N := 13) hx hb hts (by decide +kernel) hown hK hP 0 rfl rfl 2 (by decide) (hts (.fieldLink RX1 38 "DomainKeysModel" "outcome" "I") (by decide +kernel)) (fun _ h9 => h9) rfl dX1_make_52 ?_
              refine lv_bipush (v := (-2)) hx hb dX1_make_55 (by decide) ?_
              refine lv_icmp_ne (tgt := 134) hx hb dX1_make_57 (by decide) (fun c_57 => ?_) (fun c_57 => ?_)
              · exact kk _ _ H locs ls ⟨Or.inr (Or.inl ⟨hpq, i9, hi9, hok, g3, rfl⟩), fun n9 q1 q2 => by rw [(nI_eq (by omega) (by omega)).mp q2]⟩ hP hD hS
              · exact absurd c_57 (fun q => dk_n2 (n := i9) (by omega) q.symm)

set_option maxHeartbeats 4000000 in
set_option maxRecDepth 100000 in
theorem dk_m_make (l : Launch) (dC : Nat → ClassId) (dI : Nat → Nat → Nat) (k0 k1 : Nat) (b1 : ClassId) (mp mq mo hc : Int32) (ms9 : Int64) (kp kq kn pp qq gg th : Int32) (sk : Nat → Int32) (sd : Int64) (sz : Nat) : Met l yX1_make wsX1_make ({ frames := 1, cells := 0, slots := 0, locals := 25 }) (va_Pc [.ref k0, .long sd] (fun U => U.heap.size = sz ∧ va_P (dC, dI) vwCl [(k0, .inr (1, [.int mp, .int mq, .int mo, .int hc, .long ms9, .int kp, .int kq, .int kn, .int pp, .int qq, .int gg, .ref k1, .int th])), (k1, .inl (b1, 8, .inl sk))] U.heap ∧ va_K (dC, dI) vwCl [(b1, .int)] U ∧ va_D (fun _ => True) [(k0, .inr (1, [.int mp, .int mq, .int mo, .int hc, .long ms9, .int kp, .int kq, .int kn, .int pp, .int qq, .int gg, .ref k1, .int th])), (k1, .inl (b1, 8, .inl sk))])) (va_Qv (fun u9 : dk_T => ∃ mp2 r2 : Int32, (dk_Mk sd r2 ∧ (∀ n9 : Nat, n9 < 64 → r2 = nI n9 → mp2 = nI (dk_try sd n9))) ∧ u9 = (mp2, nI (dk_q sd), r2, hc, ms9, kp, kq, kn, pp, qq, gg, th, sk)) (dk_C dC dI (va_A [(k0, .inr (1, [.int mp, .int mq, .int mo, .int hc, .long ms9, .int kp, .int kq, .int kn, .int pp, .int qq, .int gg, .ref k1, .int th])), (k1, .inl (b1, 8, .inl sk))] sz) k0 k1 b1) (va_A [(k0, .inr (1, [.int mp, .int mq, .int mo, .int hc, .long ms9, .int kp, .int kq, .int kn, .int pp, .int qq, .int gg, .ref k1, .int th])), (k1, .inl (b1, 8, .inl sk))] sz)) 0 0 (va_A [(k0, .inr (1, [.int mp, .int mq, .int mo, .int hc, .long ms9, .int kp, .int kq, .int kn, .int pp, .int qq, .int gg, .ref k1, .int th])), (k1, .inl (b1, 8, .inl sk))] sz) := by
  refine Met.ofW (cc := cX1_make) (maxL := 10) (ret := none) (by decide) rfl ?_
  intro p e s m args below meth c s₁ B hml hv
  obtain ⟨rfl, hsz, hP, hK, hD0⟩ := hv
  have hx := B.exec
  have hb := B.bytes
  have hr := B.returns
  have hts := atoms_spec (ws := wsX1_make) B.pre
  have hown : s.vm.findClass RX1 = some m.cls := findClass_of_methodNamed B.named
  have hlocks := B.notSynchronized
  subst hsz
  have hD := hD0.self (sz := s.heap.size)
  generalize hAe : va_A [(k0, .inr (1, [.int mp, .int mq, .int mo, .int hc, .long ms9, .int kp, .int kq, .int kn, .int pp, .int qq, .int gg, .ref k1, .int th])), (k1, .inl (b1, 8, .inl sk))] s.heap.size = A at hD ⊢
  have hA : ∀ q : Nat, s.heap.size ≤ q → A q := fun q h => by rw [← hAe]; exact Or.inr h
  have hS : va_S A s.heap s.heap [] := va_S.rf
  have hl := lv_entry ([.ref k0, .long sd]) (n := 10) (Nat.le_of_ble_eq_true rfl)
  rw [lg_entry_eq]
  generalize (lg_sl ([.ref k0, .long sd]) ++ List.replicate (10 - (lg_sl ([.ref k0, .long sd])).length) Slot.unset).toArray = ls at hl ⊢
  have hl : lv_has ls 10 [(0, .ref k0), (1, .long sd)] := hl
  refine lv_lload_n hx hb dX1_make_0 rfl (lv_at hl 1 rfl) ?_
  refine lv_lconst (v := 0) hx hb dX1_make_1 (by decide) ?_
  refine vp_callSl (W.runS (As := [.long sd, .long 0]) (rest := []) ⟨hx, hb, hml, hown, hts⟩ (dk_m_h l sd 0) (va_cwS 2 hts gX1_make_X1_h rfl rfl rfl (by decide +kernel) ⟨Nat.le_of_ble_eq_true rfl, Nat.le_of_ble_eq_true rfl⟩) ⟨fun _ _ _ _ q9 => q9, fun U hU hW => ⟨rfl, trivial⟩⟩ rfl rfl hl.1 rfl (lv_room (Nat.le_of_ble_eq_true rfl)) dX1_make_2 ⟨Nat.le_of_ble_eq_true rfl, Nat.le_of_ble_eq_true rfl⟩) (fun r_2 hr_2 => ?_)
  subst hr_2
  refine lv_bipush (v := 51) hx hb dX1_make_5 (by decide) ?_
  refine lv_lushr hx hb dX1_make_7 rfl ?_
  refine lv_topl (fun v_7 ev_7 => ?_)
  have ev_7 : v_7 = lN (dk_hN sd 0 / 2251799813685248) := ev_7.trans (dk_hus sd 0 (k := 51) (by decide))
  subst ev_7
  refine lv_lstore_n (lv' := [(3, .long (lN (dk_hN sd 0 / 2251799813685248))), (0, .ref k0), (1, .long sd)]) hx hb dX1_make_8 rfl hl (by decide) rfl (fun ls hl => ?_)
  refine lv_aload_n hx hb dX1_make_9 rfl (lv_at hl 1 rfl) ?_
  refine lv_sipush (v := 16385) hx hb dX1_make_10 (by decide) ?_
  refine lv_iconst (v := 2) hx hb dX1_make_13 (by decide) ?_
  refine lv_lload_n hx hb dX1_make_14 rfl (lv_at hl 0 rfl) ?_
  refine lv_l2i hx hb dX1_make_15 rfl ?_
  refine lv_topi (fun v_15 ev_15 => ?_)
  have ev_15 : v_15 = nI (dk_hN sd 0 / 2251799813685248) := ev_15.trans (lN_i _)
  subst ev_15
  refine lv_imul hx hb dX1_make_16 ?_
  refine lv_topi (fun v_16 ev_16 => ?_)
  have ev_16 : v_16 = nI (2 * (dk_hN sd 0 / 2251799813685248)) := ev_16.trans (pk_mul 2 _)
  subst ev_16
  refine lv_iadd hx hb dX1_make_17 ?_
  refine lv_topi (fun v_17 ev_17 => ?_)
  have ev_17 : v_17 = nI (dk_q sd) := ev_17.trans (nI_add 16385 _)
  subst ev_17
  refine va_put (D := (dC, dI)) (ci := 1) (v := .int (nI (dk_q sd))) (ty := .int) (C := RX1) (T := TX1) (N := 13) hx hb hts (by decide +kernel) tyX1 tyX1_ok nmX1 hown hK hP hD hS 0 rfl rfl 1 (by decide) (hts (.fieldLink RX1 31 "DomainKeysModel" "madeQ" "I") (by decide +kernel)) (fun _ h9 => h9) rfl (by decide +kernel) rfl rfl (Nat.le_of_ble_eq_true rfl) dX1_make_18 (fun H locs hP hD hS => ?_)
  have hP : va_P (dC, dI) vwCl [(k0, .inr (1, [.int mp, .int (nI (dk_q sd)), .int mo, .int hc, .long ms9, .int kp, .int kq, .int kn, .int pp, .int qq, .int gg, .ref k1, .int th])), (k1, .inl (b1, 8, .inl sk))] H := hP
  have hD : va_D A [(k0, .inr (1, [.int mp, .int (nI (dk_q sd)), .int mo, .int hc, .long ms9, .int kp, .int kq, .int kn, .int pp, .int qq, .int gg, .ref k1, .int th])), (k1, .inl (b1, 8, .inl sk))] := hD
  refine lv_aload_n hx hb dX1_make_21 rfl (lv_at hl 1 rfl) ?_
  refine lv_aload_n hx hb dX1_make_22 rfl (lv_at hl 1 rfl) ?_
  refine va_get (D := (dC, dI)) (ci := 1) (v := .int (nI (dk_q sd))) (C := RX1) (T := TX1) (N := 13) hx hb hts (by decide +kernel) hown hK hP 0 rfl rfl 1 (by decide) (hts (.fieldLink RX1 31 "DomainKeysModel" "madeQ" "I") (by decide +kernel)) (fun _ h9 => h9) rfl dX1_make_23 ?_
  refine vp_callSi (W.runS (As := [.int (nI (dk_q sd))]) (rest := [.ref k0]) ⟨hx, hb, hml, hown, hts⟩ (dk_m_prime l (dk_q sd) (by have := dk_q_in sd; omega)) (va_cwS 1 hts gX1_make_X1_prime rfl rfl rfl (by decide +kernel) ⟨Nat.le_of_ble_eq_true rfl, Nat.le_of_ble_eq_true rfl⟩) ⟨fun _ _ _ _ q9 => q9, fun U hU hW => ⟨rfl, trivial⟩⟩ rfl rfl hl.1 rfl (lv_room (Nat.le_of_ble_eq_true rfl)) dX1_make_26 ⟨Nat.le_of_ble_eq_true rfl, Nat.le_of_ble_eq_true rfl⟩) (fun r_26 hr_26 => ?_)
  refine lv_if_eq (tgt := 37) hx hb dX1_make_29 (by decide) (fun c_29 => ?_) (fun c_29 => ?_)
  · have hpq : ¬ dk_pr (dk_q sd) := by
      rcases hr_26 with ⟨q, -⟩ | ⟨-, q⟩
      · rw [q] at c_29; exact absurd c_29 (by decide)
      · exact q
    refine lv_iconst (v := (-1)) hx hb dX1_make_37 (by decide) ?_
    refine va_put (D := (dC, dI)) (ci := 1) (v := .int (-1)) (ty := .int) (C := RX1) (T := TX1) (N := 13) hx hb hts (by decide +kernel) tyX1 tyX1_ok nmX1 hown hK hP hD hS 0 rfl rfl 2 (by decide) (hts (.fieldLink RX1 38 "DomainKeysModel" "outcome" "I") (by decide +kernel)) (fun _ h9 => h9) rfl (by decide +kernel) rfl rfl (Nat.le_of_ble_eq_true rfl) dX1_make_38 (fun H locs hP hD hS => ?_)
    have hP : va_P (dC, dI) vwCl [(k0, .inr (1, [.int mp, .int (nI (dk_q sd)), .int (-1), .int hc, .long ms9, .int kp, .int kq, .int kn, .int pp, .int qq, .int gg, .ref k1, .int th])), (k1, .inl (b1, 8, .inl sk))] H := hP
    have hD : va_D A [(k0, .inr (1, [.int mp, .int (nI (dk_q sd)), .int (-1), .int hc, .long ms9, .int kp, .int kq, .int kn, .int pp, .int qq, .int gg, .ref k1, .int th])), (k1, .inl (b1, 8, .inl sk))] := hD
    refine lv_iconst (v := 0) hx hb dX1_make_41 (by decide) ?_
    refine lv_istore (lv' := [(5, .int 0), (3, .long (lN (dk_hN sd 0 / 2251799813685248))), (0, .ref k0), (1, .long sd)]) hx hb dX1_make_42 hl (by decide) rfl (fun ls hl => ?_)
    refine lv_iload hx hb dX1_make_44 (lv_at hl 0 rfl) ?_
    refine lv_bipush (v := 64) hx hb dX1_make_46 (by decide) ?_
    refine lv_icmp_ge (tgt := 134) hx hb dX1_make_48 (by decide) (fun c_48 => ?_) (fun c_48 => ?_)
    · exact absurd c_48 (by decide)
    · refine lv_aload_n hx hb dX1_make_51 rfl (lv_at hl 2 rfl) ?_
      refine va_get (D := (dC, dI)) (ci := 1) (v := .int (-1)) (C := RX1) (T := TX1) (N := 13) hx hb hts (by decide +kernel) hown hK hP 0 rfl rfl 2 (by decide) (hts (.fieldLink RX1 38 "DomainKeysModel" "outcome" "I") (by decide +kernel)) (fun _ h9 => h9) rfl dX1_make_52 ?_
      refine lv_bipush (v := (-2)) hx hb dX1_make_55 (by decide) ?_
      refine lv_icmp_ne (tgt := 134) hx hb dX1_make_57 (by decide) (fun c_57 => ?_) (fun c_57 => ?_)
      · exact W.vret hx hb hr (fun t ht hW => ⟨⟨(mp, nI (dk_q sd), (-1), hc, ms9, kp, kq, kn, pp, qq, gg, th, sk), rfl, ⟨mp, -1, ⟨Or.inl ⟨hpq, rfl⟩, fun n9 q1 q2 => absurd q2 (dk_n1 (by omega))⟩, rfl⟩, by rw [ht]; exact hP, va_K.moved hW.alike hK, hD⟩, hS.F ht⟩) hS.2.2 dX1_make_134
      · exact absurd c_57 (by decide)
  · have hpq : dk_pr (dk_q sd) := by
      rcases hr_26 with ⟨-, q⟩ | ⟨q, -⟩
      · exact q
      · exact absurd q c_29
    refine lv_bipush (v := (-2)) hx hb dX1_make_32 (by decide) ?_
    refine lv_goto (tgt := 38) hx hb dX1_make_34 (by decide) ?_
    refine va_put (D := (dC, dI)) (ci := 1) (v := .int (-2)) (ty := .int) (C := RX1) (T := TX1) (N := 13) hx hb hts (by decide +kernel) tyX1 tyX1_ok nmX1 hown hK hP hD hS 0 rfl rfl 2 (by decide) (hts (.fieldLink RX1 38 "DomainKeysModel" "outcome" "I") (by decide +kernel)) (fun _ h9 => h9) rfl (by decide +kernel) rfl rfl (Nat.le_of_ble_eq_true rfl) dX1_make_38 (fun H locs hP hD hS => ?_)
    have hP : va_P (dC, dI) vwCl [(k0, .inr (1, [.int mp, .int (nI (dk_q sd)), .int (-2), .int hc, .long ms9, .int kp, .int kq, .int kn, .int pp, .int qq, .int gg, .ref k1, .int th])), (k1, .inl (b1, 8, .inl sk))] H := hP
    have hD : va_D A [(k0, .inr (1, [.int mp, .int (nI (dk_q sd)), .int (-2), .int hc, .long ms9, .int kp, .int kq, .int kn, .int pp, .int qq, .int gg, .ref k1, .int th])), (k1, .inl (b1, 8, .inl sk))] := hD
    refine lv_iconst (v := 0) hx hb dX1_make_41 (by decide) ?_
    refine lv_istore (lv' := [(5, .int 0), (3, .long (lN (dk_hN sd 0 / 2251799813685248))), (0, .ref k0), (1, .long sd)]) hx hb dX1_make_42 hl (by decide) rfl (fun ls hl => ?_)
    refine dk_make_loop dC dI k0 k1 b1 mp mq mo hc ms9 kp kq kn pp qq gg th sk sd hpq hx hb hml hown hts hA hK (fun mp2 r2 H locs ls hmk hP hD hS => ?_) 65 0 H locs ls (by omega) (by omega) (fun j hj => absurd hj (by omega)) hP hD hS (lv_sub hl [2, 3, 0] rfl)
    exact W.vret hx hb hr (fun t ht hW => ⟨⟨(mp2, nI (dk_q sd), r2, hc, ms9, kp, kq, kn, pp, qq, gg, th, sk), rfl, ⟨mp2, r2, hmk, rfl⟩, by rw [ht]; exact hP, va_K.moved hW.alike hK, hD⟩, hS.F ht⟩) hS.2.2 dX1_make_134

set_option maxHeartbeats 4000000 in
set_option maxRecDepth 100000 in
theorem dk_m_generate (l : Launch) (dC : Nat → ClassId) (dI : Nat → Nat → Nat) (k0 k1 : Nat) (b1 : ClassId) (mp mq mo hc : Int32) (ms9 : Int64) (kp kq kn pp qq gg th : Int32) (sk : Nat → Int32) (sd : Int64) (sz : Nat) : Met l yX1_generate wsX1_generate ({ frames := 2, cells := 0, slots := 0, locals := 54 }) (va_Pc [.ref k0, .long sd] (fun U => U.heap.size = sz ∧ va_P (dC, dI) vwCl [(k0, .inr (1, [.int mp, .int mq, .int mo, .int hc, .long ms9, .int kp, .int kq, .int kn, .int pp, .int qq, .int gg, .ref k1, .int th])), (k1, .inl (b1, 8, .inl sk))] U.heap ∧ va_K (dC, dI) vwCl [(b1, .int)] U ∧ va_D (fun _ => True) [(k0, .inr (1, [.int mp, .int mq, .int mo, .int hc, .long ms9, .int kp, .int kq, .int kn, .int pp, .int qq, .int gg, .ref k1, .int th])), (k1, .inl (b1, 8, .inl sk))])) (va_Qi (fun (r9 : Int32) (u9 : dk_T) => dk_Mk sd r9 ∧ ((r9 < 0 ∧ ∃ mp2 : Int32, u9 = (mp2, nI (dk_q sd), r9, hc, ms9, kp, kq, kn, pp, qq, gg, 0, sk)) ∨ ∃ n9 : Nat, n9 < 64 ∧ dk_ok sd n9 ∧ dk_pr (dk_q sd) ∧ r9 = nI n9 ∧ u9 = (nI (dk_try sd n9), nI (dk_q sd), nI n9, 1, sd, nI (dk_try sd n9), nI (dk_q sd), nI n9, pp, qq, gg, 0, sk))) (dk_C dC dI (va_A [(k0, .inr (1, [.int mp, .int mq, .int mo, .int hc, .long ms9, .int kp, .int kq, .int kn, .int pp, .int qq, .int gg, .ref k1, .int th])), (k1, .inl (b1, 8, .inl sk))] sz) k0 k1 b1) (va_A [(k0, .inr (1, [.int mp, .int mq, .int mo, .int hc, .long ms9, .int kp, .int kq, .int kn, .int pp, .int qq, .int gg, .ref k1, .int th])), (k1, .inl (b1, 8, .inl sk))] sz)) 0 0 (va_A [(k0, .inr (1, [.int mp, .int mq, .int mo, .int hc, .long ms9, .int kp, .int kq, .int kn, .int pp, .int qq, .int gg, .ref k1, .int th])), (k1, .inl (b1, 8, .inl sk))] sz) := by
  refine Met.ofW (cc := cX1_generate) (maxL := 3) (ret := (some .int)) (by decide) rfl ?_
  intro p e s m args below meth c s₁ B hml hv
  obtain ⟨rfl, hsz, hP, hK, hD0⟩ := hv
  have hx := B.exec
  have hb := B.bytes
  have hr := B.returns
  have hts := atoms_spec (ws := wsX1_generate) B.pre
  have hown : s.vm.findClass RX1 = some m.cls := findClass_of_methodNamed B.named
  have hlocks := B.notSynchronized
  subst hsz
  have hD := hD0.self (sz := s.heap.size)
  generalize hAe : va_A [(k0, .inr (1, [.int mp, .int mq, .int mo, .int hc, .long ms9, .int kp, .int kq, .int kn, .int pp, .int qq, .int gg, .ref k1, .int th])), (k1, .inl (b1, 8, .inl sk))] s.heap.size = A at hD ⊢
  have hA : ∀ q : Nat, s.heap.size ≤ q → A q := fun q h => by rw [← hAe]; exact Or.inr h
  have hS : va_S A s.heap s.heap [] := va_S.rf
  have hl := lv_entry ([.ref k0, .long sd]) (n := 3) (Nat.le_of_ble_eq_true rfl)
  rw [lg_entry_eq]
  generalize (lg_sl ([.ref k0, .long sd]) ++ List.replicate (3 - (lg_sl ([.ref k0, .long sd])).length) Slot.unset).toArray = ls at hl ⊢
  have hl : lv_has ls 3 [(0, .ref k0), (1, .long sd)] := hl
  refine lv_aload_n hx hb dX1_generate_0 rfl (lv_at hl 0 rfl) ?_
  refine lv_iconst (v := 0) hx hb dX1_generate_1 (by decide) ?_
  refine va_put (D := (dC, dI)) (ci := 1) (v := .int 0) (ty := .int) (C := RX1) (T := TX1) (N := 13) hx hb hts (by decide +kernel) tyX1 tyX1_ok nmX1 hown hK hP hD hS 0 rfl rfl 12 (by decide) (hts (.fieldLink RX1 13 "DomainKeysModel" "thrown" "I") (by decide +kernel)) (fun _ h9 => h9) rfl (by decide +kernel) rfl rfl (Nat.le_of_ble_eq_true rfl) dX1_generate_2 (fun H locs hP hD hS => ?_)
  have hP : va_P (dC, dI) vwCl [(k0, .inr (1, [.int mp, .int mq, .int mo, .int hc, .long ms9, .int kp, .int kq, .int kn, .int pp, .int qq, .int gg, .ref k1, .int 0])), (k1, .inl (b1, 8, .inl sk))] H := hP
  have hD : va_D A [(k0, .inr (1, [.int mp, .int mq, .int mo, .int hc, .long ms9, .int kp, .int kq, .int kn, .int pp, .int qq, .int gg, .ref k1, .int 0])), (k1, .inl (b1, 8, .inl sk))] := hD
  refine lv_aload_n hx hb dX1_generate_5 rfl (lv_at hl 0 rfl) ?_
  refine lv_lload_n hx hb dX1_generate_6 rfl (lv_at hl 1 rfl) ?_
  have hPc := hP.sub (ws' := [(k0, .inr (1, [.int mp, .int mq, .int mo, .int hc, .long ms9, .int kp, .int kq, .int kn, .int pp, .int qq, .int gg, .ref k1, .int 0])), (k1, .inl (b1, 8, .inl sk))]) [0, 1] rfl
  have hDc := hD.sub (ws' := [(k0, .inr (1, [.int mp, .int mq, .int mo, .int hc, .long ms9, .int kp, .int kq, .int kn, .int pp, .int qq, .int gg, .ref k1, .int 0])), (k1, .inl (b1, 8, .inl sk))]) [0, 1] (by decide) rfl
  have hKc := hK.sub (tys' := [(b1, .int)]) [0] rfl
  have hFc := va_free (wc := [(k0, .inr (1, [.int mp, .int mq, .int mo, .int hc, .long ms9, .int kp, .int kq, .int kn, .int pp, .int qq, .int gg, .ref k1, .int 0])), (k1, .inl (b1, 8, .inl sk))]) hD hS hA [0, 1] rfl
  refine va_callv (va_runV (As := [.long sd]) (rest := []) ⟨hx, hb, hml, hown, hts⟩ (dk_m_make l dC dI k0 k1 b1 mp mq mo hc ms9 kp kq kn pp qq gg 0 sk sd _) (cwV 1 hts gX1_generate_X1_make rfl rfl rfl (by decide +kernel) ⟨Nat.le_of_ble_eq_true rfl, Nat.le_of_ble_eq_true rfl⟩) ⟨fun a U g mk q => by obtain ⟨q0, q1, qP, qK, qD⟩ := q; exact ⟨q0, q1, qP, va_K.moved (u := U) (U := U.calling g mk a) (Vm.Alike.refl U.vm) qK, qD⟩, va_recv hKc hPc (ci := 1) (q0 := 0) rfl rfl, fun U hU hW => ⟨rfl, by rw [hU], by rw [hU]; exact hPc, va_K.moved hW.alike hKc, hDc.weaken (fun _ _ _ _ => trivial)⟩⟩ rfl rfl hl.1 rfl (lv_room (Nat.le_of_ble_eq_true rfl)) dX1_generate_7 ⟨Nat.le_of_ble_eq_true rfl, Nat.le_of_ble_eq_true rfl⟩) hS (fun q _ h => hFc q h) hFc (fun u t H1 locs ht hvm hw hB hz1 hk1 hS => ?_)
  obtain ⟨mp2, r2, ⟨hmk, hmp⟩, rfl⟩ := hw
  obtain ⟨hP1, hK1, hD1⟩ := hB
  rw [ht] at hP1
  have hK1 := va_K.moved hvm.symm hK1
  obtain ⟨hP, hD⟩ := va_join (wr := []) (w1 := [(k0, .inr (1, [.int mp2, .int (nI (dk_q sd)), .int r2, .int hc, .long ms9, .int kp, .int kq, .int kn, .int pp, .int qq, .int gg, .ref k1, .int 0])), (k1, .inl (b1, 8, .inl sk))]) hP hD [0, 1] [] rfl rfl (by decide) (by decide) hk1 hFc hP1 hD1
  have hK := (hK.sub (tys' := []) [] rfl).app hK1
  generalize H1 = H at hP hS ⊢
  have hP : va_P (dC, dI) vwCl [(k0, .inr (1, [.int mp2, .int (nI (dk_q sd)), .int r2, .int hc, .long ms9, .int kp, .int kq, .int kn, .int pp, .int qq, .int gg, .ref k1, .int 0])), (k1, .inl (b1, 8, .inl sk))] H := hP
  have hD : va_D A [(k0, .inr (1, [.int mp2, .int (nI (dk_q sd)), .int r2, .int hc, .long ms9, .int kp, .int kq, .int kn, .int pp, .int qq, .int gg, .ref k1, .int 0])), (k1, .inl (b1, 8, .inl sk))] := hD
  have hK : va_K (dC, dI) vwCl [(b1, .int)] s := hK
  refine lv_aload_n hx hb dX1_generate_10 rfl (lv_at hl 0 rfl) ?_
  refine va_get (D := (dC, dI)) (ci := 1) (v := .int r2) (C := RX1) (T := TX1) (N := 13) hx hb hts (by decide +kernel) hown hK hP 0 rfl rfl 2 (by decide) (hts (.fieldLink RX1 38 "DomainKeysModel" "outcome" "I") (by decide +kernel)) (fun _ h9 => h9) rfl dX1_generate_11 ?_
  refine lv_if_lt (tgt := 51) hx hb dX1_generate_14 (by decide) (fun c_14 => ?_) (fun c_14 => ?_)
  · refine lv_aload_n hx hb dX1_generate_51 rfl (lv_at hl 0 rfl) ?_
    refine va_get (D := (dC, dI)) (ci := 1) (v := .int r2) (C := RX1) (T := TX1) (N := 13) hx hb hts (by decide +kernel) hown hK hP 0 rfl rfl 2 (by decide) (hts (.fieldLink RX1 38 "DomainKeysModel" "outcome" "I") (by decide +kernel)) (fun _ h9 => h9) rfl dX1_generate_52 ?_
    exact W.iret (v := r2) hx hb hr (fun t ht hW => ⟨⟨r2, (mp2, nI (dk_q sd), r2, hc, ms9, kp, kq, kn, pp, qq, gg, 0, sk), rfl, ⟨hmk, Or.inl ⟨c_14, mp2, rfl⟩⟩, by rw [ht]; exact hP, va_K.moved hW.alike hK, hD⟩, hS.F ht⟩) hS.2.2 dX1_generate_55
  · obtain ⟨n9, hn9, hok, hpq, rfl⟩ : ∃ n9 : Nat, n9 < 64 ∧ dk_ok sd n9 ∧ dk_pr (dk_q sd) ∧ r2 = nI n9 := by
      rcases hmk with ⟨-, q⟩ | ⟨q1, n9, q2, q3, q4, q⟩ | ⟨-, -, q⟩
      · exact absurd (by rw [q]; decide) c_14
      · exact ⟨n9, q2, q3, q1, q⟩
      · exact absurd (by rw [q]; decide) c_14
    obtain rfl := hmp n9 hn9 rfl
    refine lv_aload_n hx hb dX1_generate_17 rfl (lv_at hl 0 rfl) ?_
    refine lv_iconst (v := 1) hx hb dX1_generate_18 (by decide) ?_
    refine va_put (D := (dC, dI)) (ci := 1) (v := .int 1) (ty := .boolean) (C := RX1) (T := TX1) (N := 13) hx hb hts (by decide +kernel) tyX1 tyX1_ok nmX1 hown hK hP hD hS 0 rfl rfl 3 (by decide) (hts (.fieldLink RX1 50 "DomainKeysModel" "hasCandidate" "Z") (by decide +kernel)) (fun _ h9 => h9) rfl (by decide +kernel) rfl rfl (Nat.le_of_ble_eq_true rfl) dX1_generate_19 (fun H locs hP hD hS => ?_)
    have hP : va_P (dC, dI) vwCl [(k0, .inr (1, [.int (nI (dk_try sd n9)), .int (nI (dk_q sd)), .int (nI n9), .int 1, .long ms9, .int kp, .int kq, .int kn, .int pp, .int qq, .int gg, .ref k1, .int 0])), (k1, .inl (b1, 8, .inl sk))] H := hP
    have hD : va_D A [(k0, .inr (1, [.int (nI (dk_try sd n9)), .int (nI (dk_q sd)), .int (nI n9), .int 1, .long ms9, .int kp, .int kq, .int kn, .int pp, .int qq, .int gg, .ref k1, .int 0])), (k1, .inl (b1, 8, .inl sk))] := hD
    refine lv_aload_n hx hb dX1_generate_22 rfl (lv_at hl 0 rfl) ?_
    refine lv_lload_n hx hb dX1_generate_23 rfl (lv_at hl 1 rfl) ?_
    refine va_put (D := (dC, dI)) (ci := 1) (v := .long sd) (ty := .long) (C := RX1) (T := TX1) (N := 13) hx hb hts (by decide +kernel) tyX1 tyX1_ok nmX1 hown hK hP hD hS 0 rfl rfl 4 (by decide) (hts (.fieldLink RX1 54 "DomainKeysModel" "seed" "J") (by decide +kernel)) (fun _ h9 => h9) rfl (by decide +kernel) rfl rfl (Nat.le_of_ble_eq_true rfl) dX1_generate_24 (fun H locs hP hD hS => ?_)
    have hP : va_P (dC, dI) vwCl [(k0, .inr (1, [.int (nI (dk_try sd n9)), .int (nI (dk_q sd)), .int (nI n9), .int 1, .long sd, .int kp, .int kq, .int kn, .int pp, .int qq, .int gg, .ref k1, .int 0])), (k1, .inl (b1, 8, .inl sk))] H := hP
    have hD : va_D A [(k0, .inr (1, [.int (nI (dk_try sd n9)), .int (nI (dk_q sd)), .int (nI n9), .int 1, .long sd, .int kp, .int kq, .int kn, .int pp, .int qq, .int gg, .ref k1, .int 0])), (k1, .inl (b1, 8, .inl sk))] := hD
    refine lv_aload_n hx hb dX1_generate_27 rfl (lv_at hl 0 rfl) ?_
    refine lv_aload_n hx hb dX1_generate_28 rfl (lv_at hl 0 rfl) ?_
    refine va_get (D := (dC, dI)) (ci := 1) (v := .int (nI (dk_try sd n9))) (C := RX1) (T := TX1) (N := 13) hx hb hts (by decide +kernel) hown hK hP 0 rfl rfl 0 (by decide) (hts (.fieldLink RX1 43 "DomainKeysModel" "madeP" "I") (by decide +kernel)) (fun _ h9 => h9) rfl dX1_generate_29 ?_
    refine va_put (D := (dC, dI)) (ci := 1) (v := .int (nI (dk_try sd n9))) (ty := .int) (C := RX1) (T := TX1) (N := 13) hx hb hts (by decide +kernel) tyX1 tyX1_ok nmX1 hown hK hP hD hS 0 rfl rfl 5 (by decide) (hts (.fieldLink RX1 58 "DomainKeysModel" "candidateP" "I") (by decide +kernel)) (fun _ h9 => h9) rfl (by decide +kernel) rfl rfl (Nat.le_of_ble_eq_true rfl) dX1_generate_32 (fun H locs hP hD hS => ?_)
    have hP : va_P (dC, dI) vwCl [(k0, .inr (1, [.int (nI (dk_try sd n9)), .int (nI (dk_q sd)), .int (nI n9), .int 1, .long sd, .int (nI (dk_try sd n9)), .int kq, .int kn, .int pp, .int qq, .int gg, .ref k1, .int 0])), (k1, .inl (b1, 8, .inl sk))] H := hP
    have hD : va_D A [(k0, .inr (1, [.int (nI (dk_try sd n9)), .int (nI (dk_q sd)), .int (nI n9), .int 1, .long sd, .int (nI (dk_try sd n9)), .int kq, .int kn, .int pp, .int qq, .int gg, .ref k1, .int 0])), (k1, .inl (b1, 8, .inl sk))] := hD
    refine lv_aload_n hx hb dX1_generate_35 rfl (lv_at hl 0 rfl) ?_
    refine lv_aload_n hx hb dX1_generate_36 rfl (lv_at hl 0 rfl) ?_
    refine va_get (D := (dC, dI)) (ci := 1) (v := .int (nI (dk_q sd))) (C := RX1) (T := TX1) (N := 13) hx hb hts (by decide +kernel) hown hK hP 0 rfl rfl 1 (by decide) (hts (.fieldLink RX1 31 "DomainKeysModel" "madeQ" "I") (by decide +kernel)) (fun _ h9 => h9) rfl dX1_generate_37 ?_
    refine va_put (D := (dC, dI)) (ci := 1) (v := .int (nI (dk_q sd))) (ty := .int) (C := RX1) (T := TX1) (N := 13) hx hb hts (by decide +kernel) tyX1 tyX1_ok nmX1 hown hK hP hD hS 0 rfl rfl 6 (by decide) (hts (.fieldLink RX1 61 "DomainKeysModel" "candidateQ" "I") (by decide +kernel)) (fun _ h9 => h9) rfl (by decide +kernel) rfl rfl (Nat.le_of_ble_eq_true rfl) dX1_generate_40 (fun H locs hP hD hS => ?_)
    have hP : va_P (dC, dI) vwCl [(k0, .inr (1, [.int (nI (dk_try sd n9)), .int (nI (dk_q sd)), .int (nI n9), .int 1, .long sd, .int (nI (dk_try sd n9)), .int (nI (dk_q sd)), .int kn, .int pp, .int qq, .int gg, .ref k1, .int 0])), (k1, .inl (b1, 8, .inl sk))] H := hP
    have hD : va_D A [(k0, .inr (1, [.int (nI (dk_try sd n9)), .int (nI (dk_q sd)), .int (nI n9), .int 1, .long sd, .int (nI (dk_try sd n9)), .int (nI (dk_q sd)), .int kn, .int pp, .int qq, .int gg, .ref k1, .int 0])), (k1, .inl (b1, 8, .inl sk))] := hD
    refine lv_aload_n hx hb dX1_generate_43 rfl (lv_at hl 0 rfl) ?_
    refine lv_aload_n hx hb dX1_generate_44 rfl (lv_at hl 0 rfl) ?_
    refine va_get (D := (dC, dI)) (ci := 1) (v := .int (nI n9)) (C := RX1) (T := TX1) (N := 13) hx hb hts (by decide +kernel) hown hK hP 0 rfl rfl 2 (by decide) (hts (.fieldLink RX1 38 "DomainKeysModel" "outcome" "I") (by decide +kernel)) (fun _ h9 => h9) rfl dX1_generate_45 ?_
    refine va_put (D := (dC, dI)) (ci := 1) (v := .int (nI n9)) (ty := .int) (C := RX1) (T := TX1) (N := 13) hx hb hts (by decide +kernel) tyX1 tyX1_ok nmX1 hown hK hP hD hS 0 rfl rfl 7 (by decide) (hts (.fieldLink RX1 64 "DomainKeysModel" "candidateCounter" "I") (by decide +kernel)) (fun _ h9 => h9) rfl (by decide +kernel) rfl rfl (Nat.le_of_ble_eq_true rfl) dX1_generate_48 (fun H locs hP hD hS => ?_)
    have hP : va_P (dC, dI) vwCl [(k0, .inr (1, [.int (nI (dk_try sd n9)), .int (nI (dk_q sd)), .int (nI n9), .int 1, .long sd, .int (nI (dk_try sd n9)), .int (nI (dk_q sd)), .int (nI n9), .int pp, .int qq, .int gg, .ref k1, .int 0])), (k1, .inl (b1, 8, .inl sk))] H := hP
    have hD : va_D A [(k0, .inr (1, [.int (nI (dk_try sd n9)), .int (nI (dk_q sd)), .int (nI n9), .int 1, .long sd, .int (nI (dk_try sd n9)), .int (nI (dk_q sd)), .int (nI n9), .int pp, .int qq, .int gg, .ref k1, .int 0])), (k1, .inl (b1, 8, .inl sk))] := hD
    refine lv_aload_n hx hb dX1_generate_51 rfl (lv_at hl 0 rfl) ?_
    refine va_get (D := (dC, dI)) (ci := 1) (v := .int (nI n9)) (C := RX1) (T := TX1) (N := 13) hx hb hts (by decide +kernel) hown hK hP 0 rfl rfl 2 (by decide) (hts (.fieldLink RX1 38 "DomainKeysModel" "outcome" "I") (by decide +kernel)) (fun _ h9 => h9) rfl dX1_generate_52 ?_
    exact W.iret (v := (nI n9)) hx hb hr (fun t ht hW => ⟨⟨nI n9, (nI (dk_try sd n9), nI (dk_q sd), nI n9, 1, sd, nI (dk_try sd n9), nI (dk_q sd), nI n9, pp, qq, gg, 0, sk), rfl, ⟨hmk, Or.inr ⟨n9, hn9, hok, hpq, rfl, rfl⟩⟩, by rw [ht]; exact hP, va_K.moved hW.alike hK, hD⟩, hS.F ht⟩) hS.2.2 dX1_generate_55

set_option maxHeartbeats 4000000 in
set_option maxRecDepth 100000 in
theorem dk_m_candidate (l : Launch) (dC : Nat → ClassId) (dI : Nat → Nat → Nat) (k0 k1 : Nat) (b1 : ClassId) (mp mq mo hc : Int32) (ms9 : Int64) (kp kq kn pp qq gg th : Int32) (sk : Nat → Int32) (x : Int32) (sz : Nat) : Met l yX1_candidate wsX1_candidate ({ frames := 0, cells := 0, slots := 0, locals := 0 }) (va_Pc [.ref k0, .int x] (fun U => U.heap.size = sz ∧ va_P (dC, dI) vwCl [(k0, .inr (1, [.int mp, .int mq, .int mo, .int hc, .long ms9, .int kp, .int kq, .int kn, .int pp, .int qq, .int gg, .ref k1, .int th])), (k1, .inl (b1, 8, .inl sk))] U.heap ∧ va_K (dC, dI) vwCl [(b1, .int)] U ∧ va_D (fun _ => True) [(k0, .inr (1, [.int mp, .int mq, .int mo, .int hc, .long ms9, .int kp, .int kq, .int kn, .int pp, .int qq, .int gg, .ref k1, .int th])), (k1, .inl (b1, 8, .inl sk))])) (va_Ql (fun (r9 : Int64) (u9 : dk_T) => u9 = (mp, mq, mo, hc, ms9, kp, kq, kn, pp, qq, gg, 0, sk) ∧ r9 = if hc = 0 then 0 else dk_fcand kp kq ms9 kn x) (dk_C dC dI (va_A [(k0, .inr (1, [.int mp, .int mq, .int mo, .int hc, .long ms9, .int kp, .int kq, .int kn, .int pp, .int qq, .int gg, .ref k1, .int th])), (k1, .inl (b1, 8, .inl sk))] sz) k0 k1 b1) (va_A [(k0, .inr (1, [.int mp, .int mq, .int mo, .int hc, .long ms9, .int kp, .int kq, .int kn, .int pp, .int qq, .int gg, .ref k1, .int th])), (k1, .inl (b1, 8, .inl sk))] sz)) 0 0 (va_A [(k0, .inr (1, [.int mp, .int mq, .int mo, .int hc, .long ms9, .int kp, .int kq, .int kn, .int pp, .int qq, .int gg, .ref k1, .int th])), (k1, .inl (b1, 8, .inl sk))] sz) := by
  refine Met.ofW (cc := cX1_candidate) (maxL := 2) (ret := (some .long)) (by decide) rfl ?_
  intro p e s m args below meth c s₁ B hml hv
  obtain ⟨rfl, hsz, hP, hK, hD0⟩ := hv
  have hx := B.exec
  have hb := B.bytes
  have hr := B.returns
  have hts := atoms_spec (ws := wsX1_candidate) B.pre
  have hown : s.vm.findClass RX1 = some m.cls := findClass_of_methodNamed B.named
  have hlocks := B.notSynchronized
  subst hsz
  have hD := hD0.self (sz := s.heap.size)
  generalize hAe : va_A [(k0, .inr (1, [.int mp, .int mq, .int mo, .int hc, .long ms9, .int kp, .int kq, .int kn, .int pp, .int qq, .int gg, .ref k1, .int th])), (k1, .inl (b1, 8, .inl sk))] s.heap.size = A at hD ⊢
  have hA : ∀ q : Nat, s.heap.size ≤ q → A q := fun q h => by rw [← hAe]; exact Or.inr h
  have hS : va_S A s.heap s.heap [] := va_S.rf
  have hl := lv_entry ([.ref k0, .int x]) (n := 2) (Nat.le_of_ble_eq_true rfl)
  rw [lg_entry_eq]
  generalize (lg_sl ([.ref k0, .int x]) ++ List.replicate (2 - (lg_sl ([.ref k0, .int x])).length) Slot.unset).toArray = ls at hl ⊢
  have hl : lv_has ls 2 [(0, .ref k0), (1, .int x)] := hl
  refine lv_aload_n hx hb dX1_candidate_0 rfl (lv_at hl 0 rfl) ?_
  refine lv_iconst (v := 0) hx hb dX1_candidate_1 (by decide) ?_
  refine va_put (D := (dC, dI)) (ci := 1) (v := .int 0) (ty := .int) (C := RX1) (T := TX1) (N := 13) hx hb hts (by decide +kernel) tyX1 tyX1_ok nmX1 hown hK hP hD hS 0 rfl rfl 12 (by decide) (hts (.fieldLink RX1 13 "DomainKeysModel" "thrown" "I") (by decide +kernel)) (fun _ h9 => h9) rfl (by decide +kernel) rfl rfl (Nat.le_of_ble_eq_true rfl) dX1_candidate_2 (fun H locs hP hD hS => ?_)
  have hP : va_P (dC, dI) vwCl [(k0, .inr (1, [.int mp, .int mq, .int mo, .int hc, .long ms9, .int kp, .int kq, .int kn, .int pp, .int qq, .int gg, .ref k1, .int 0])), (k1, .inl (b1, 8, .inl sk))] H := hP
  have hD : va_D A [(k0, .inr (1, [.int mp, .int mq, .int mo, .int hc, .long ms9, .int kp, .int kq, .int kn, .int pp, .int qq, .int gg, .ref k1, .int 0])), (k1, .inl (b1, 8, .inl sk))] := hD
  refine lv_aload_n hx hb dX1_candidate_5 rfl (lv_at hl 0 rfl) ?_
  refine va_get (D := (dC, dI)) (ci := 1) (v := .int hc) (C := RX1) (T := TX1) (N := 13) hx hb hts (by decide +kernel) hown hK hP 0 rfl rfl 3 (by decide) (hts (.fieldLink RX1 50 "DomainKeysModel" "hasCandidate" "Z") (by decide +kernel)) (fun _ h9 => h9) rfl dX1_candidate_6 ?_
  refine lv_if_ne (tgt := 14) hx hb dX1_candidate_9 (by decide) (fun c_9 => ?_) (fun c_9 => ?_)
  · refine lv_iload_n hx hb dX1_candidate_14 rfl (lv_at hl 1 rfl) ?_
    refine lv_if_ne (tgt := 26) hx hb dX1_candidate_15 (by decide) (fun c_15 => ?_) (fun c_15 => ?_)
    · refine lv_iload_n hx hb dX1_candidate_26 rfl (lv_at hl 1 rfl) ?_
      refine lv_iconst (v := 1) hx hb dX1_candidate_27 (by decide) ?_
      refine lv_icmp_ne (tgt := 39) hx hb dX1_candidate_28 (by decide) (fun c_28 => ?_) (fun c_28 => ?_)
      · refine lv_iload_n hx hb dX1_candidate_39 rfl (lv_at hl 1 rfl) ?_
        refine lv_iconst (v := 2) hx hb dX1_candidate_40 (by decide) ?_
        refine lv_icmp_ne (tgt := 51) hx hb dX1_candidate_41 (by decide) (fun c_41 => ?_) (fun c_41 => ?_)
        · refine lv_iload_n hx hb dX1_candidate_51 rfl (lv_at hl 1 rfl) ?_
          refine lv_iconst (v := 3) hx hb dX1_candidate_52 (by decide) ?_
          refine lv_icmp_ne (tgt := 64) hx hb dX1_candidate_53 (by decide) (fun c_53 => ?_) (fun c_53 => ?_)
          · refine lv_lconst (v := 0) hx hb dX1_candidate_64 (by decide) ?_
            exact W.lret (v := 0) hx hb hr (fun t ht hW => ⟨⟨0, (mp, mq, mo, hc, ms9, kp, kq, kn, pp, qq, gg, 0, sk), rfl, ⟨rfl, by rw [if_neg c_9, dk_fcand, if_neg c_15, if_neg c_28, if_neg c_41, if_neg c_53]⟩, by rw [ht]; exact hP, va_K.moved hW.alike hK, hD⟩, hS.F ht⟩) hS.2.2 dX1_candidate_65
          · refine lv_aload_n hx hb dX1_candidate_56 rfl (lv_at hl 0 rfl) ?_
            refine va_get (D := (dC, dI)) (ci := 1) (v := .int kn) (C := RX1) (T := TX1) (N := 13) hx hb hts (by decide +kernel) hown hK hP 0 rfl rfl 7 (by decide) (hts (.fieldLink RX1 64 "DomainKeysModel" "candidateCounter" "I") (by decide +kernel)) (fun _ h9 => h9) rfl dX1_candidate_57 ?_
            refine lv_i2l hx hb dX1_candidate_60 rfl ?_
            refine lv_goto (tgt := 65) hx hb dX1_candidate_61 (by decide) ?_
            exact W.lret (v := kn.toInt64) hx hb hr (fun t ht hW => ⟨⟨kn.toInt64, (mp, mq, mo, hc, ms9, kp, kq, kn, pp, qq, gg, 0, sk), rfl, ⟨rfl, by rw [if_neg c_9, dk_fcand, if_neg c_15, if_neg c_28, if_neg c_41, if_pos c_53]⟩, by rw [ht]; exact hP, va_K.moved hW.alike hK, hD⟩, hS.F ht⟩) hS.2.2 dX1_candidate_65
        · refine lv_aload_n hx hb dX1_candidate_44 rfl (lv_at hl 0 rfl) ?_
          refine va_get (D := (dC, dI)) (ci := 1) (v := .long ms9) (C := RX1) (T := TX1) (N := 13) hx hb hts (by decide +kernel) hown hK hP 0 rfl rfl 4 (by decide) (hts (.fieldLink RX1 54 "DomainKeysModel" "seed" "J") (by decide +kernel)) (fun _ h9 => h9) rfl dX1_candidate_45 ?_
          refine lv_goto (tgt := 65) hx hb dX1_candidate_48 (by decide) ?_
          exact W.lret (v := ms9) hx hb hr (fun t ht hW => ⟨⟨ms9, (mp, mq, mo, hc, ms9, kp, kq, kn, pp, qq, gg, 0, sk), rfl, ⟨rfl, by rw [if_neg c_9, dk_fcand, if_neg c_15, if_neg c_28, if_pos c_41]⟩, by rw [ht]; exact hP, va_K.moved hW.alike hK, hD⟩, hS.F ht⟩) hS.2.2 dX1_candidate_65
      · refine lv_aload_n hx hb dX1_candidate_31 rfl (lv_at hl 0 rfl) ?_
        refine va_get (D := (dC, dI)) (ci := 1) (v := .int kq) (C := RX1) (T := TX1) (N := 13) hx hb hts (by decide +kernel) hown hK hP 0 rfl rfl 6 (by decide) (hts (.fieldLink RX1 61 "DomainKeysModel" "candidateQ" "I") (by decide +kernel)) (fun _ h9 => h9) rfl dX1_candidate_32 ?_
        refine lv_i2l hx hb dX1_candidate_35 rfl ?_
        refine lv_goto (tgt := 65) hx hb dX1_candidate_36 (by decide) ?_
        exact W.lret (v := kq.toInt64) hx hb hr (fun t ht hW => ⟨⟨kq.toInt64, (mp, mq, mo, hc, ms9, kp, kq, kn, pp, qq, gg, 0, sk), rfl, ⟨rfl, by rw [if_neg c_9, dk_fcand, if_neg c_15, if_pos c_28]⟩, by rw [ht]; exact hP, va_K.moved hW.alike hK, hD⟩, hS.F ht⟩) hS.2.2 dX1_candidate_65
    · refine lv_aload_n hx hb dX1_candidate_18 rfl (lv_at hl 0 rfl) ?_
      refine va_get (D := (dC, dI)) (ci := 1) (v := .int kp) (C := RX1) (T := TX1) (N := 13) hx hb hts (by decide +kernel) hown hK hP 0 rfl rfl 5 (by decide) (hts (.fieldLink RX1 58 "DomainKeysModel" "candidateP" "I") (by decide +kernel)) (fun _ h9 => h9) rfl dX1_candidate_19 ?_
      refine lv_i2l hx hb dX1_candidate_22 rfl ?_
      refine lv_goto (tgt := 65) hx hb dX1_candidate_23 (by decide) ?_
      exact W.lret (v := kp.toInt64) hx hb hr (fun t ht hW => ⟨⟨kp.toInt64, (mp, mq, mo, hc, ms9, kp, kq, kn, pp, qq, gg, 0, sk), rfl, ⟨rfl, by rw [if_neg c_9, dk_fcand, if_pos c_15]⟩, by rw [ht]; exact hP, va_K.moved hW.alike hK, hD⟩, hS.F ht⟩) hS.2.2 dX1_candidate_65
  · refine lv_lconst (v := 0) hx hb dX1_candidate_12 (by decide) ?_
    exact W.lret (v := 0) hx hb hr (fun t ht hW => ⟨⟨0, (mp, mq, mo, hc, ms9, kp, kq, kn, pp, qq, gg, 0, sk), rfl, ⟨rfl, (if_pos c_9).symm⟩, by rw [ht]; exact hP, va_K.moved hW.alike hK, hD⟩, hS.F ht⟩) hS.2.2 dX1_candidate_13

set_option maxHeartbeats 4000000 in
set_option maxRecDepth 100000 in
theorem dk_m_domain (l : Launch) (dC : Nat → ClassId) (dI : Nat → Nat → Nat) (k0 k1 : Nat) (b1 : ClassId) (mp mq mo hc : Int32) (ms9 : Int64) (kp kq kn pp qq gg th : Int32) (sk : Nat → Int32) (x : Int32) (sz : Nat) : Met l yX1_domain wsX1_domain ({ frames := 0, cells := 0, slots := 0, locals := 0 }) (va_Pc [.ref k0, .int x] (fun U => U.heap.size = sz ∧ va_P (dC, dI) vwCl [(k0, .inr (1, [.int mp, .int mq, .int mo, .int hc, .long ms9, .int kp, .int kq, .int kn, .int pp, .int qq, .int gg, .ref k1, .int th])), (k1, .inl (b1, 8, .inl sk))] U.heap ∧ va_K (dC, dI) vwCl [(b1, .int)] U ∧ va_D (fun _ => True) [(k0, .inr (1, [.int mp, .int mq, .int mo, .int hc, .long ms9, .int kp, .int kq, .int kn, .int pp, .int qq, .int gg, .ref k1, .int th])), (k1, .inl (b1, 8, .inl sk))])) (va_Qi (fun (r9 : Int32) (u9 : dk_T) => u9 = (mp, mq, mo, hc, ms9, kp, kq, kn, pp, qq, gg, 0, sk) ∧ r9 = dk_fdom pp qq gg x) (dk_C dC dI (va_A [(k0, .inr (1, [.int mp, .int mq, .int mo, .int hc, .long ms9, .int kp, .int kq, .int kn, .int pp, .int qq, .int gg, .ref k1, .int th])), (k1, .inl (b1, 8, .inl sk))] sz) k0 k1 b1) (va_A [(k0, .inr (1, [.int mp, .int mq, .int mo, .int hc, .long ms9, .int kp, .int kq, .int kn, .int pp, .int qq, .int gg, .ref k1, .int th])), (k1, .inl (b1, 8, .inl sk))] sz)) 0 0 (va_A [(k0, .inr (1, [.int mp, .int mq, .int mo, .int hc, .long ms9, .int kp, .int kq, .int kn, .int pp, .int qq, .int gg, .ref k1, .int th])), (k1, .inl (b1, 8, .inl sk))] sz) := by
  refine Met.ofW (cc := cX1_domain) (maxL := 2) (ret := (some .int)) (by decide) rfl ?_
  intro p e s m args below meth c s₁ B hml hv
  obtain ⟨rfl, hsz, hP, hK, hD0⟩ := hv
  have hx := B.exec
  have hb := B.bytes
  have hr := B.returns
  have hts := atoms_spec (ws := wsX1_domain) B.pre
  have hown : s.vm.findClass RX1 = some m.cls := findClass_of_methodNamed B.named
  have hlocks := B.notSynchronized
  subst hsz
  have hD := hD0.self (sz := s.heap.size)
  generalize hAe : va_A [(k0, .inr (1, [.int mp, .int mq, .int mo, .int hc, .long ms9, .int kp, .int kq, .int kn, .int pp, .int qq, .int gg, .ref k1, .int th])), (k1, .inl (b1, 8, .inl sk))] s.heap.size = A at hD ⊢
  have hA : ∀ q : Nat, s.heap.size ≤ q → A q := fun q h => by rw [← hAe]; exact Or.inr h
  have hS : va_S A s.heap s.heap [] := va_S.rf
  have hl := lv_entry ([.ref k0, .int x]) (n := 2) (Nat.le_of_ble_eq_true rfl)
  rw [lg_entry_eq]
  generalize (lg_sl ([.ref k0, .int x]) ++ List.replicate (2 - (lg_sl ([.ref k0, .int x])).length) Slot.unset).toArray = ls at hl ⊢
  have hl : lv_has ls 2 [(0, .ref k0), (1, .int x)] := hl
  refine lv_aload_n hx hb dX1_domain_0 rfl (lv_at hl 0 rfl) ?_
  refine lv_iconst (v := 0) hx hb dX1_domain_1 (by decide) ?_
  refine va_put (D := (dC, dI)) (ci := 1) (v := .int 0) (ty := .int) (C := RX1) (T := TX1) (N := 13) hx hb hts (by decide +kernel) tyX1 tyX1_ok nmX1 hown hK hP hD hS 0 rfl rfl 12 (by decide) (hts (.fieldLink RX1 13 "DomainKeysModel" "thrown" "I") (by decide +kernel)) (fun _ h9 => h9) rfl (by decide +kernel) rfl rfl (Nat.le_of_ble_eq_true rfl) dX1_domain_2 (fun H locs hP hD hS => ?_)
  have hP : va_P (dC, dI) vwCl [(k0, .inr (1, [.int mp, .int mq, .int mo, .int hc, .long ms9, .int kp, .int kq, .int kn, .int pp, .int qq, .int gg, .ref k1, .int 0])), (k1, .inl (b1, 8, .inl sk))] H := hP
  have hD : va_D A [(k0, .inr (1, [.int mp, .int mq, .int mo, .int hc, .long ms9, .int kp, .int kq, .int kn, .int pp, .int qq, .int gg, .ref k1, .int 0])), (k1, .inl (b1, 8, .inl sk))] := hD
  refine lv_iload_n hx hb dX1_domain_5 rfl (lv_at hl 1 rfl) ?_
  refine lv_if_ne (tgt := 16) hx hb dX1_domain_6 (by decide) (fun c_6 => ?_) (fun c_6 => ?_)
  · refine lv_iload_n hx hb dX1_domain_16 rfl (lv_at hl 1 rfl) ?_
    refine lv_iconst (v := 1) hx hb dX1_domain_17 (by decide) ?_
    refine lv_icmp_ne (tgt := 28) hx hb dX1_domain_18 (by decide) (fun c_18 => ?_) (fun c_18 => ?_)
    · refine lv_iload_n hx hb dX1_domain_28 rfl (lv_at hl 1 rfl) ?_
      refine lv_iconst (v := 2) hx hb dX1_domain_29 (by decide) ?_
      refine lv_icmp_ne (tgt := 40) hx hb dX1_domain_30 (by decide) (fun c_30 => ?_) (fun c_30 => ?_)
      · refine lv_iconst (v := 0) hx hb dX1_domain_40 (by decide) ?_
        exact W.iret (v := 0) hx hb hr (fun t ht hW => ⟨⟨0, (mp, mq, mo, hc, ms9, kp, kq, kn, pp, qq, gg, 0, sk), rfl, ⟨rfl, by rw [dk_fdom, if_neg c_6, if_neg c_18, if_neg c_30]⟩, by rw [ht]; exact hP, va_K.moved hW.alike hK, hD⟩, hS.F ht⟩) hS.2.2 dX1_domain_41
      · refine lv_aload_n hx hb dX1_domain_33 rfl (lv_at hl 0 rfl) ?_
        refine va_get (D := (dC, dI)) (ci := 1) (v := .int gg) (C := RX1) (T := TX1) (N := 13) hx hb hts (by decide +kernel) hown hK hP 0 rfl rfl 10 (by decide) (hts (.fieldLink RX1 79 "DomainKeysModel" "g" "I") (by decide +kernel)) (fun _ h9 => h9) rfl dX1_domain_34 ?_
        refine lv_goto (tgt := 41) hx hb dX1_domain_37 (by decide) ?_
        exact W.iret (v := gg) hx hb hr (fun t ht hW => ⟨⟨gg, (mp, mq, mo, hc, ms9, kp, kq, kn, pp, qq, gg, 0, sk), rfl, ⟨rfl, by rw [dk_fdom, if_neg c_6, if_neg c_18, if_pos c_30]⟩, by rw [ht]; exact hP, va_K.moved hW.alike hK, hD⟩, hS.F ht⟩) hS.2.2 dX1_domain_41
    · refine lv_aload_n hx hb dX1_domain_21 rfl (lv_at hl 0 rfl) ?_
      refine va_get (D := (dC, dI)) (ci := 1) (v := .int qq) (C := RX1) (T := TX1) (N := 13) hx hb hts (by decide +kernel) hown hK hP 0 rfl rfl 9 (by decide) (hts (.fieldLink RX1 76 "DomainKeysModel" "q" "I") (by decide +kernel)) (fun _ h9 => h9) rfl dX1_domain_22 ?_
      refine lv_goto (tgt := 41) hx hb dX1_domain_25 (by decide) ?_
      exact W.iret (v := qq) hx hb hr (fun t ht hW => ⟨⟨qq, (mp, mq, mo, hc, ms9, kp, kq, kn, pp, qq, gg, 0, sk), rfl, ⟨rfl, by rw [dk_fdom, if_neg c_6, if_pos c_18]⟩, by rw [ht]; exact hP, va_K.moved hW.alike hK, hD⟩, hS.F ht⟩) hS.2.2 dX1_domain_41
  · refine lv_aload_n hx hb dX1_domain_9 rfl (lv_at hl 0 rfl) ?_
    refine va_get (D := (dC, dI)) (ci := 1) (v := .int pp) (C := RX1) (T := TX1) (N := 13) hx hb hts (by decide +kernel) hown hK hP 0 rfl rfl 8 (by decide) (hts (.fieldLink RX1 73 "DomainKeysModel" "p" "I") (by decide +kernel)) (fun _ h9 => h9) rfl dX1_domain_10 ?_
    refine lv_goto (tgt := 41) hx hb dX1_domain_13 (by decide) ?_
    exact W.iret (v := pp) hx hb hr (fun t ht hW => ⟨⟨pp, (mp, mq, mo, hc, ms9, kp, kq, kn, pp, qq, gg, 0, sk), rfl, ⟨rfl, by rw [dk_fdom, if_pos c_6]⟩, by rw [ht]; exact hP, va_K.moved hW.alike hK, hD⟩, hS.F ht⟩) hS.2.2 dX1_domain_41

set_option maxHeartbeats 4000000 in
set_option maxRecDepth 100000 in
theorem dk_m_digest (l : Launch) (dC : Nat → ClassId) (dI : Nat → Nat → Nat) (k0 k1 : Nat) (b1 : ClassId) (mp mq mo hc : Int32) (ms9 : Int64) (kp kq kn pp qq gg th : Int32) (sk : Nat → Int32) (a : Int64) (sz : Nat) : Met l yX1_digest wsX1_digest ({ frames := 2, cells := 0, slots := 0, locals := 46 }) (va_Pc [.ref k0, .long a] (fun U => U.heap.size = sz ∧ va_P (dC, dI) vwCl [(k0, .inr (1, [.int mp, .int mq, .int mo, .int hc, .long ms9, .int kp, .int kq, .int kn, .int pp, .int qq, .int gg, .ref k1, .int th])), (k1, .inl (b1, 8, .inl sk))] U.heap ∧ va_K (dC, dI) vwCl [(b1, .int)] U ∧ va_D (fun _ => True) [(k0, .inr (1, [.int mp, .int mq, .int mo, .int hc, .long ms9, .int kp, .int kq, .int kn, .int pp, .int qq, .int gg, .ref k1, .int th])), (k1, .inl (b1, 8, .inl sk))])) (va_Qi (fun (r9 : Int32) (u9 : dk_T) => u9 = (mp, mq, mo, hc, ms9, kp, kq, kn, pp, qq, gg, 0, sk) ∧ r9 = nI (dk_z a)) (dk_C dC dI (va_A [(k0, .inr (1, [.int mp, .int mq, .int mo, .int hc, .long ms9, .int kp, .int kq, .int kn, .int pp, .int qq, .int gg, .ref k1, .int th])), (k1, .inl (b1, 8, .inl sk))] sz) k0 k1 b1) (va_A [(k0, .inr (1, [.int mp, .int mq, .int mo, .int hc, .long ms9, .int kp, .int kq, .int kn, .int pp, .int qq, .int gg, .ref k1, .int th])), (k1, .inl (b1, 8, .inl sk))] sz)) 0 0 (va_A [(k0, .inr (1, [.int mp, .int mq, .int mo, .int hc, .long ms9, .int kp, .int kq, .int kn, .int pp, .int qq, .int gg, .ref k1, .int th])), (k1, .inl (b1, 8, .inl sk))] sz) := by
  refine Met.ofW (cc := cX1_digest) (maxL := 3) (ret := (some .int)) (by decide) rfl ?_
  intro p e s m args below meth c s₁ B hml hv
  obtain ⟨rfl, hsz, hP, hK, hD0⟩ := hv
  have hx := B.exec
  have hb := B.bytes
  have hr := B.returns
  have hts := atoms_spec (ws := wsX1_digest) B.pre
  have hown : s.vm.findClass RX1 = some m.cls := findClass_of_methodNamed B.named
  have hlocks := B.notSynchronized
  subst hsz
  have hD := hD0.self (sz := s.heap.size)
  generalize hAe : va_A [(k0, .inr (1, [.int mp, .int mq, .int mo, .int hc, .long ms9, .int kp, .int kq, .int kn, .int pp, .int qq, .int gg, .ref k1, .int th])), (k1, .inl (b1, 8, .inl sk))] s.heap.size = A at hD ⊢
  have hA : ∀ q : Nat, s.heap.size ≤ q → A q := fun q h => by rw [← hAe]; exact Or.inr h
  have hS : va_S A s.heap s.heap [] := va_S.rf
  have hl := lv_entry ([.ref k0, .long a]) (n := 3) (Nat.le_of_ble_eq_true rfl)
  rw [lg_entry_eq]
  generalize (lg_sl ([.ref k0, .long a]) ++ List.replicate (3 - (lg_sl ([.ref k0, .long a])).length) Slot.unset).toArray = ls at hl ⊢
  have hl : lv_has ls 3 [(0, .ref k0), (1, .long a)] := hl
  refine lv_aload_n hx hb dX1_digest_0 rfl (lv_at hl 0 rfl) ?_
  refine lv_iconst (v := 0) hx hb dX1_digest_1 (by decide) ?_
  refine va_put (D := (dC, dI)) (ci := 1) (v := .int 0) (ty := .int) (C := RX1) (T := TX1) (N := 13) hx hb hts (by decide +kernel) tyX1 tyX1_ok nmX1 hown hK hP hD hS 0 rfl rfl 12 (by decide) (hts (.fieldLink RX1 13 "DomainKeysModel" "thrown" "I") (by decide +kernel)) (fun _ h9 => h9) rfl (by decide +kernel) rfl rfl (Nat.le_of_ble_eq_true rfl) dX1_digest_2 (fun H locs hP hD hS => ?_)
  have hP : va_P (dC, dI) vwCl [(k0, .inr (1, [.int mp, .int mq, .int mo, .int hc, .long ms9, .int kp, .int kq, .int kn, .int pp, .int qq, .int gg, .ref k1, .int 0])), (k1, .inl (b1, 8, .inl sk))] H := hP
  have hD : va_D A [(k0, .inr (1, [.int mp, .int mq, .int mo, .int hc, .long ms9, .int kp, .int kq, .int kn, .int pp, .int qq, .int gg, .ref k1, .int 0])), (k1, .inl (b1, 8, .inl sk))] := hD
  refine lv_lload_n hx hb dX1_digest_5 rfl (lv_at hl 1 rfl) ?_
  refine vp_callSl (W.runS (As := [.long a]) (rest := []) ⟨hx, hb, hml, hown, hts⟩ (dk_m_digestOf l a) (va_cwS 1 hts gX1_digest_X1_digestOf rfl rfl rfl (by decide +kernel) ⟨Nat.le_of_ble_eq_true rfl, Nat.le_of_ble_eq_true rfl⟩) ⟨fun _ _ _ _ q9 => q9, fun U hU hW => ⟨rfl, trivial⟩⟩ rfl rfl hl.1 rfl (lv_room (Nat.le_of_ble_eq_true rfl)) dX1_digest_6 ⟨Nat.le_of_ble_eq_true rfl, Nat.le_of_ble_eq_true rfl⟩) (fun r_6 hr_6 => ?_)
  subst hr_6
  refine lv_l2i hx hb dX1_digest_9 rfl ?_
  refine lv_topi (fun v_9 ev_9 => ?_)
  have ev_9 : v_9 = nI (dk_z a) := ev_9.trans (lN_i _)
  subst ev_9
  exact W.iret (v := (nI (dk_z a))) hx hb hr (fun t ht hW => ⟨⟨nI (dk_z a), (mp, mq, mo, hc, ms9, kp, kq, kn, pp, qq, gg, 0, sk), rfl, ⟨rfl, rfl⟩, by rw [ht]; exact hP, va_K.moved hW.alike hK, hD⟩, hS.F ht⟩) hS.2.2 dX1_digest_10

set_option maxHeartbeats 4000000 in
set_option maxRecDepth 100000 in
theorem dk_m_valid (l : Launch) (dC : Nat → ClassId) (dI : Nat → Nat → Nat) (k0 k1 : Nat) (b1 : ClassId) (mp mq mo hc : Int32) (ms9 : Int64) (kp kq kn pp qq gg th : Int32) (sk : Nat → Int32) (x y : Int32) (sd : Int64) (n : Int32) (sz : Nat) : Met l yX1_valid wsX1_valid ({ frames := 2, cells := 0, slots := 0, locals := 54 }) (va_Pc [.ref k0, .int x, .int y, .long sd, .int n] (fun U => U.heap.size = sz ∧ va_P (dC, dI) vwCl [(k0, .inr (1, [.int mp, .int mq, .int mo, .int hc, .long ms9, .int kp, .int kq, .int kn, .int pp, .int qq, .int gg, .ref k1, .int th])), (k1, .inl (b1, 8, .inl sk))] U.heap ∧ va_K (dC, dI) vwCl [(b1, .int)] U ∧ va_D (fun _ => True) [(k0, .inr (1, [.int mp, .int mq, .int mo, .int hc, .long ms9, .int kp, .int kq, .int kn, .int pp, .int qq, .int gg, .ref k1, .int th])), (k1, .inl (b1, 8, .inl sk))])) (va_Qi (fun (r9 : Int32) (u9 : dk_T) => ((r9 = 1 ∧ dk_val x y sd n) ∨ (r9 = 0 ∧ ¬ dk_val x y sd n)) ∧ ∃ mp2 r2 : Int32, u9 = (mp2, nI (dk_q sd), r2, hc, ms9, kp, kq, kn, pp, qq, gg, 0, sk)) (dk_C dC dI (va_A [(k0, .inr (1, [.int mp, .int mq, .int mo, .int hc, .long ms9, .int kp, .int kq, .int kn, .int pp, .int qq, .int gg, .ref k1, .int th])), (k1, .inl (b1, 8, .inl sk))] sz) k0 k1 b1) (va_A [(k0, .inr (1, [.int mp, .int mq, .int mo, .int hc, .long ms9, .int kp, .int kq, .int kn, .int pp, .int qq, .int gg, .ref k1, .int th])), (k1, .inl (b1, 8, .inl sk))] sz)) 0 0 (va_A [(k0, .inr (1, [.int mp, .int mq, .int mo, .int hc, .long ms9, .int kp, .int kq, .int kn, .int pp, .int qq, .int gg, .ref k1, .int th])), (k1, .inl (b1, 8, .inl sk))] sz) := by
  refine Met.ofW (cc := cX1_valid) (maxL := 6) (ret := (some .boolean)) (by decide) rfl ?_
  intro p e s m args below meth c s₁ B hml hv
  obtain ⟨rfl, hsz, hP, hK, hD0⟩ := hv
  have hx := B.exec
  have hb := B.bytes
  have hr := B.returns
  have hts := atoms_spec (ws := wsX1_valid) B.pre
  have hown : s.vm.findClass RX1 = some m.cls := findClass_of_methodNamed B.named
  have hlocks := B.notSynchronized
  subst hsz
  have hD := hD0.self (sz := s.heap.size)
  generalize hAe : va_A [(k0, .inr (1, [.int mp, .int mq, .int mo, .int hc, .long ms9, .int kp, .int kq, .int kn, .int pp, .int qq, .int gg, .ref k1, .int th])), (k1, .inl (b1, 8, .inl sk))] s.heap.size = A at hD ⊢
  have hA : ∀ q : Nat, s.heap.size ≤ q → A q := fun q h => by rw [← hAe]; exact Or.inr h
  have hS : va_S A s.heap s.heap [] := va_S.rf
  have hl := lv_entry ([.ref k0, .int x, .int y, .long sd, .int n]) (n := 6) (Nat.le_of_ble_eq_true rfl)
  rw [lg_entry_eq]
  generalize (lg_sl ([.ref k0, .int x, .int y, .long sd, .int n]) ++ List.replicate (6 - (lg_sl ([.ref k0, .int x, .int y, .long sd, .int n])).length) Slot.unset).toArray = ls at hl ⊢
  have hl : lv_has ls 6 [(0, .ref k0), (1, .int x), (2, .int y), (3, .long sd), (5, .int n)] := hl
  refine lv_aload_n hx hb dX1_valid_0 rfl (lv_at hl 0 rfl) ?_
  refine lv_iconst (v := 0) hx hb dX1_valid_1 (by decide) ?_
  refine va_put (D := (dC, dI)) (ci := 1) (v := .int 0) (ty := .int) (C := RX1) (T := TX1) (N := 13) hx hb hts (by decide +kernel) tyX1 tyX1_ok nmX1 hown hK hP hD hS 0 rfl rfl 12 (by decide) (hts (.fieldLink RX1 13 "DomainKeysModel" "thrown" "I") (by decide +kernel)) (fun _ h9 => h9) rfl (by decide +kernel) rfl rfl (Nat.le_of_ble_eq_true rfl) dX1_valid_2 (fun H locs hP hD hS => ?_)
  have hP : va_P (dC, dI) vwCl [(k0, .inr (1, [.int mp, .int mq, .int mo, .int hc, .long ms9, .int kp, .int kq, .int kn, .int pp, .int qq, .int gg, .ref k1, .int 0])), (k1, .inl (b1, 8, .inl sk))] H := hP
  have hD : va_D A [(k0, .inr (1, [.int mp, .int mq, .int mo, .int hc, .long ms9, .int kp, .int kq, .int kn, .int pp, .int qq, .int gg, .ref k1, .int 0])), (k1, .inl (b1, 8, .inl sk))] := hD
  refine lv_aload_n hx hb dX1_valid_5 rfl (lv_at hl 0 rfl) ?_
  refine lv_lload_n hx hb dX1_valid_6 rfl (lv_at hl 3 rfl) ?_
  have hPc := hP.sub (ws' := [(k0, .inr (1, [.int mp, .int mq, .int mo, .int hc, .long ms9, .int kp, .int kq, .int kn, .int pp, .int qq, .int gg, .ref k1, .int 0])), (k1, .inl (b1, 8, .inl sk))]) [0, 1] rfl
  have hDc := hD.sub (ws' := [(k0, .inr (1, [.int mp, .int mq, .int mo, .int hc, .long ms9, .int kp, .int kq, .int kn, .int pp, .int qq, .int gg, .ref k1, .int 0])), (k1, .inl (b1, 8, .inl sk))]) [0, 1] (by decide) rfl
  have hKc := hK.sub (tys' := [(b1, .int)]) [0] rfl
  have hFc := va_free (wc := [(k0, .inr (1, [.int mp, .int mq, .int mo, .int hc, .long ms9, .int kp, .int kq, .int kn, .int pp, .int qq, .int gg, .ref k1, .int 0])), (k1, .inl (b1, 8, .inl sk))]) hD hS hA [0, 1] rfl
  refine va_callv (va_runV (As := [.long sd]) (rest := []) ⟨hx, hb, hml, hown, hts⟩ (dk_m_make l dC dI k0 k1 b1 mp mq mo hc ms9 kp kq kn pp qq gg 0 sk sd _) (cwV 1 hts gX1_valid_X1_make rfl rfl rfl (by decide +kernel) ⟨Nat.le_of_ble_eq_true rfl, Nat.le_of_ble_eq_true rfl⟩) ⟨fun a U g mk q => by obtain ⟨q0, q1, qP, qK, qD⟩ := q; exact ⟨q0, q1, qP, va_K.moved (u := U) (U := U.calling g mk a) (Vm.Alike.refl U.vm) qK, qD⟩, va_recv hKc hPc (ci := 1) (q0 := 0) rfl rfl, fun U hU hW => ⟨rfl, by rw [hU], by rw [hU]; exact hPc, va_K.moved hW.alike hKc, hDc.weaken (fun _ _ _ _ => trivial)⟩⟩ rfl rfl hl.1 rfl (lv_room (Nat.le_of_ble_eq_true rfl)) dX1_valid_7 ⟨Nat.le_of_ble_eq_true rfl, Nat.le_of_ble_eq_true rfl⟩) hS (fun q _ h => hFc q h) hFc (fun u t H1 locs ht hvm hw hB hz1 hk1 hS => ?_)
  obtain ⟨mp2, r2, ⟨hmk, hmp⟩, rfl⟩ := hw
  obtain ⟨hP1, hK1, hD1⟩ := hB
  rw [ht] at hP1
  have hK1 := va_K.moved hvm.symm hK1
  obtain ⟨hP, hD⟩ := va_join (wr := []) (w1 := [(k0, .inr (1, [.int mp2, .int (nI (dk_q sd)), .int r2, .int hc, .long ms9, .int kp, .int kq, .int kn, .int pp, .int qq, .int gg, .ref k1, .int 0])), (k1, .inl (b1, 8, .inl sk))]) hP hD [0, 1] [] rfl rfl (by decide) (by decide) hk1 hFc hP1 hD1
  have hK := (hK.sub (tys' := []) [] rfl).app hK1
  generalize H1 = H at hP hS ⊢
  have hP : va_P (dC, dI) vwCl [(k0, .inr (1, [.int mp2, .int (nI (dk_q sd)), .int r2, .int hc, .long ms9, .int kp, .int kq, .int kn, .int pp, .int qq, .int gg, .ref k1, .int 0])), (k1, .inl (b1, 8, .inl sk))] H := hP
  have hD : va_D A [(k0, .inr (1, [.int mp2, .int (nI (dk_q sd)), .int r2, .int hc, .long ms9, .int kp, .int kq, .int kn, .int pp, .int qq, .int gg, .ref k1, .int 0])), (k1, .inl (b1, 8, .inl sk))] := hD
  have hK : va_K (dC, dI) vwCl [(b1, .int)] s := hK
  refine lv_aload_n hx hb dX1_valid_10 rfl (lv_at hl 0 rfl) ?_
  refine va_get (D := (dC, dI)) (ci := 1) (v := .int r2) (C := RX1) (T := TX1) (N := 13) hx hb hts (by decide +kernel) hown hK hP 0 rfl rfl 2 (by decide) (hts (.fieldLink RX1 38 "DomainKeysModel" "outcome" "I") (by decide +kernel)) (fun _ h9 => h9) rfl dX1_valid_11 ?_
  refine lv_if_lt (tgt := 46) hx hb dX1_valid_14 (by decide) (fun c_14 => ?_) (fun c_14 => ?_)
  · have hno : ¬ dk_val x y sd n := fun ⟨d0, d, d1, d2, d3, d4, d5, d6⟩ => by
      have hr2 : r2 = nI d := dk_Mk_one hmk (Or.inr (Or.inl ⟨d0, d, d1, d2, d3, rfl⟩))
      rw [hr2] at c_14
      exact nI_pos (by omega) c_14
    refine lv_iconst (v := 0) hx hb dX1_valid_46 (by decide) ?_
    exact W.zret (v := 0) (ty := .boolean) hx hb hr rfl (fun t ht hW => ⟨⟨0, (mp2, nI (dk_q sd), r2, hc, ms9, kp, kq, kn, pp, qq, gg, 0, sk), rfl, ⟨Or.inr ⟨rfl, hno⟩, mp2, r2, rfl⟩, by rw [ht]; exact hP, va_K.moved hW.alike hK, hD⟩, hS.F ht⟩) hS.2.2 dX1_valid_47
  · refine lv_aload_n hx hb dX1_valid_17 rfl (lv_at hl 0 rfl) ?_
    refine va_get (D := (dC, dI)) (ci := 1) (v := .int r2) (C := RX1) (T := TX1) (N := 13) hx hb hts (by decide +kernel) hown hK hP 0 rfl rfl 2 (by decide) (hts (.fieldLink RX1 38 "DomainKeysModel" "outcome" "I") (by decide +kernel)) (fun _ h9 => h9) rfl dX1_valid_18 ?_
    refine lv_iload hx hb dX1_valid_21 (lv_at hl 4 rfl) ?_
    refine lv_icmp_ne (tgt := 46) hx hb dX1_valid_23 (by decide) (fun c_23 => ?_) (fun c_23 => ?_)
    · have hno : ¬ dk_val x y sd n := fun ⟨d0, d, d1, d2, d3, d4, d5, d6⟩ => by
        have hr2 : r2 = nI d := dk_Mk_one hmk (Or.inr (Or.inl ⟨d0, d, d1, d2, d3, rfl⟩))
        exact c_23 (hr2.trans d4.symm)
      refine lv_iconst (v := 0) hx hb dX1_valid_46 (by decide) ?_
      exact W.zret (v := 0) (ty := .boolean) hx hb hr rfl (fun t ht hW => ⟨⟨0, (mp2, nI (dk_q sd), r2, hc, ms9, kp, kq, kn, pp, qq, gg, 0, sk), rfl, ⟨Or.inr ⟨rfl, hno⟩, mp2, r2, rfl⟩, by rw [ht]; exact hP, va_K.moved hW.alike hK, hD⟩, hS.F ht⟩) hS.2.2 dX1_valid_47
    · refine lv_aload_n hx hb dX1_valid_26 rfl (lv_at hl 0 rfl) ?_
      refine va_get (D := (dC, dI)) (ci := 1) (v := .int mp2) (C := RX1) (T := TX1) (N := 13) hx hb hts (by decide +kernel) hown hK hP 0 rfl rfl 0 (by decide) (hts (.fieldLink RX1 43 "DomainKeysModel" "madeP" "I") (by decide +kernel)) (fun _ h9 => h9) rfl dX1_valid_27 ?_
      refine lv_iload_n hx hb dX1_valid_30 rfl (lv_at hl 1 rfl) ?_
      refine lv_icmp_ne (tgt := 46) hx hb dX1_valid_31 (by decide) (fun c_31 => ?_) (fun c_31 => ?_)
      · have hno : ¬ dk_val x y sd n := fun ⟨d0, d, d1, d2, d3, d4, d5, d6⟩ => by
          have hr2 : r2 = nI d := dk_Mk_one hmk (Or.inr (Or.inl ⟨d0, d, d1, d2, d3, rfl⟩))
          exact c_31 ((hmp d d1 hr2).trans d6.symm)
        refine lv_iconst (v := 0) hx hb dX1_valid_46 (by decide) ?_
        exact W.zret (v := 0) (ty := .boolean) hx hb hr rfl (fun t ht hW => ⟨⟨0, (mp2, nI (dk_q sd), r2, hc, ms9, kp, kq, kn, pp, qq, gg, 0, sk), rfl, ⟨Or.inr ⟨rfl, hno⟩, mp2, r2, rfl⟩, by rw [ht]; exact hP, va_K.moved hW.alike hK, hD⟩, hS.F ht⟩) hS.2.2 dX1_valid_47
      · refine lv_aload_n hx hb dX1_valid_34 rfl (lv_at hl 0 rfl) ?_
        refine va_get (D := (dC, dI)) (ci := 1) (v := .int (nI (dk_q sd))) (C := RX1) (T := TX1) (N := 13) hx hb hts (by decide +kernel) hown hK hP 0 rfl rfl 1 (by decide) (hts (.fieldLink RX1 31 "DomainKeysModel" "madeQ" "I") (by decide +kernel)) (fun _ h9 => h9) rfl dX1_valid_35 ?_
        refine lv_iload_n hx hb dX1_valid_38 rfl (lv_at hl 2 rfl) ?_
        refine lv_icmp_ne (tgt := 46) hx hb dX1_valid_39 (by decide) (fun c_39 => ?_) (fun c_39 => ?_)
        · have hno : ¬ dk_val x y sd n := fun ⟨d0, d, d1, d2, d3, d4, d5, d6⟩ => by
            have hr2 : r2 = nI d := dk_Mk_one hmk (Or.inr (Or.inl ⟨d0, d, d1, d2, d3, rfl⟩))
            exact c_39 d5.symm
          refine lv_iconst (v := 0) hx hb dX1_valid_46 (by decide) ?_
          exact W.zret (v := 0) (ty := .boolean) hx hb hr rfl (fun t ht hW => ⟨⟨0, (mp2, nI (dk_q sd), r2, hc, ms9, kp, kq, kn, pp, qq, gg, 0, sk), rfl, ⟨Or.inr ⟨rfl, hno⟩, mp2, r2, rfl⟩, by rw [ht]; exact hP, va_K.moved hW.alike hK, hD⟩, hS.F ht⟩) hS.2.2 dX1_valid_47
        · obtain ⟨n9, hn9, hok, hfi, hpq, hr2⟩ : ∃ n9 : Nat, n9 < 64 ∧ dk_ok sd n9 ∧ (∀ j, j < n9 → ¬ dk_ok sd j) ∧ dk_pr (dk_q sd) ∧ r2 = nI n9 := by
            rcases hmk with ⟨-, q⟩ | ⟨q1, n9, q2, q3, q4, q⟩ | ⟨-, -, q⟩
            · exact absurd (by rw [q]; decide) c_14
            · exact ⟨n9, q2, q3, q4, q1, q⟩
            · exact absurd (by rw [q]; decide) c_14
          have hyes : dk_val x y sd n := ⟨hpq, n9, hn9, hok, hfi, c_23.symm.trans hr2, c_39.symm, c_31.symm.trans (hmp n9 hn9 hr2)⟩
          refine lv_iconst (v := 1) hx hb dX1_valid_42 (by decide) ?_
          refine lv_goto (tgt := 47) hx hb dX1_valid_43 (by decide) ?_
          exact W.zret (v := 1) (ty := .boolean) hx hb hr rfl (fun t ht hW => ⟨⟨1, (mp2, nI (dk_q sd), r2, hc, ms9, kp, kq, kn, pp, qq, gg, 0, sk), rfl, ⟨Or.inl ⟨rfl, hyes⟩, mp2, r2, rfl⟩, by rw [ht]; exact hP, va_K.moved hW.alike hK, hD⟩, hS.F ht⟩) hS.2.2 dX1_valid_47
