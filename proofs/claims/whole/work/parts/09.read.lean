set_option maxHeartbeats 4000000 in
set_option maxRecDepth 100000 in
theorem dk_c_isExponent (l : Launch) (dC : Nat → ClassId) (dI : Nat → Nat → Nat) (h0 h1 h2 : Nat) (a1 a2 : ClassId) (cp cq : Int32) (cs : Int64) (cn dp dq dg : Int32) (se pu : Nat → Int32) (x : Int32) : Met l yX0_isExponent wsX0_isExponent ({ frames := 0, cells := 0, slots := 0, locals := 0 }) (va_Pc [.ref h0, .int x] (fun U => va_P (dC, dI) vwCl [(h0, .inr (0, [.int cp, .int cq, .long cs, .int cn, .int dp, .int dq, .int dg, .ref h1, .ref h2])), (h1, .inl (a1, 8, .inl se)), (h2, .inl (a2, 8, .inl pu))] U.heap ∧ va_K (dC, dI) vwCl [(a1, .int), (a2, .int)] U)) (vp_Si (fun r9 => r9 = if dk_ex x dq then 1 else 0)) 0 0 (fun _ => False) := by
  refine Met.ofW (cc := cX0_isExponent) (maxL := 2) (ret := (some .boolean)) (by decide) rfl ?_
  intro p e s m args below meth c s₁ B hml hv
  obtain ⟨rfl, hP, hK⟩ := hv
  have hx := B.exec
  have hb := B.bytes
  have hr := B.returns
  have hts := atoms_spec (ws := wsX0_isExponent) B.pre
  have hown : s.vm.findClass RX0 = some m.cls := findClass_of_methodNamed B.named
  have hlocks := B.notSynchronized
  have hl := lv_entry ([.ref h0, .int x]) (n := 2) (Nat.le_of_ble_eq_true rfl)
  rw [lg_entry_eq]
  generalize (lg_sl ([.ref h0, .int x]) ++ List.replicate (2 - (lg_sl ([.ref h0, .int x])).length) Slot.unset).toArray = ls at hl ⊢
  have hl : lv_has ls 2 [(0, .ref h0), (1, .int x)] := hl
  refine lv_iload_n hx hb dX0_isExponent_0 rfl (lv_at hl 1 rfl) ?_
  refine lv_iconst (v := 1) hx hb dX0_isExponent_1 (by decide) ?_
  refine lv_icmp_lt (tgt := 17) hx hb dX0_isExponent_2 (by decide) (fun c_2 => ?_) (fun c_2 => ?_)
  · have hno : ¬ dk_ex x dq := fun q => dk_not_lt.mpr q.1 c_2
    refine lv_iconst (v := 0) hx hb dX0_isExponent_17 (by decide) ?_
    exact W.zret (v := 0) (ty := .boolean) hx hb hr rfl (fun t ht hW => ⟨_, rfl, (if_neg (show ¬ (dk_ex x dq) from hno)).symm, ht⟩) (fun q h => nomatch h) dX0_isExponent_18
  · refine lv_iload_n hx hb dX0_isExponent_5 rfl (lv_at hl 1 rfl) ?_
    refine lv_aload_n hx hb dX0_isExponent_6 rfl (lv_at hl 0 rfl) ?_
    refine va_get (D := (dC, dI)) (ci := 0) (v := .int dq) (C := RX0) (T := TX0) (N := 9) hx hb hts (by decide +kernel) hown hK hP 0 rfl rfl 5 (by decide) (hts (.fieldLink RX0 66 "DomainKeys" "domainQ" "I") (by decide +kernel)) (fun _ h9 => h9) rfl dX0_isExponent_7 ?_
    refine lv_icmp_ge (tgt := 17) hx hb dX0_isExponent_10 (by decide) (fun c_10 => ?_) (fun c_10 => ?_)
    · have hno : ¬ dk_ex x dq := fun q => dk_not_lt.mpr c_10 q.2
      refine lv_iconst (v := 0) hx hb dX0_isExponent_17 (by decide) ?_
      exact W.zret (v := 0) (ty := .boolean) hx hb hr rfl (fun t ht hW => ⟨_, rfl, (if_neg (show ¬ (dk_ex x dq) from hno)).symm, ht⟩) (fun q h => nomatch h) dX0_isExponent_18
    · have hyes : dk_ex x dq := ⟨dk_not_lt.mp c_2, dk_not_le.mp c_10⟩
      refine lv_iconst (v := 1) hx hb dX0_isExponent_13 (by decide) ?_
      refine lv_goto (tgt := 18) hx hb dX0_isExponent_14 (by decide) ?_
      exact W.zret (v := 1) (ty := .boolean) hx hb hr rfl (fun t ht hW => ⟨_, rfl, (if_pos (show dk_ex x dq from hyes)).symm, ht⟩) (fun q h => nomatch h) dX0_isExponent_18

set_option maxHeartbeats 4000000 in
set_option maxRecDepth 100000 in
theorem dk_c_isPeer (l : Launch) (dC : Nat → ClassId) (dI : Nat → Nat → Nat) (h0 h1 h2 : Nat) (a1 a2 : ClassId) (cp cq : Int32) (cs : Int64) (cn dp dq dg : Int32) (se pu : Nat → Int32) (x : Int32) : Met l yX0_isPeer wsX0_isPeer ({ frames := 0, cells := 0, slots := 0, locals := 0 }) (va_Pc [.ref h0, .int x] (fun U => va_P (dC, dI) vwCl [(h0, .inr (0, [.int cp, .int cq, .long cs, .int cn, .int dp, .int dq, .int dg, .ref h1, .ref h2])), (h1, .inl (a1, 8, .inl se)), (h2, .inl (a2, 8, .inl pu))] U.heap ∧ va_K (dC, dI) vwCl [(a1, .int), (a2, .int)] U)) (vp_Si (fun r9 => r9 = if dk_pe x dp then 1 else 0)) 0 0 (fun _ => False) := by
  refine Met.ofW (cc := cX0_isPeer) (maxL := 2) (ret := (some .boolean)) (by decide) rfl ?_
  intro p e s m args below meth c s₁ B hml hv
  obtain ⟨rfl, hP, hK⟩ := hv
  have hx := B.exec
  have hb := B.bytes
  have hr := B.returns
  have hts := atoms_spec (ws := wsX0_isPeer) B.pre
  have hown : s.vm.findClass RX0 = some m.cls := findClass_of_methodNamed B.named
  have hlocks := B.notSynchronized
  have hl := lv_entry ([.ref h0, .int x]) (n := 2) (Nat.le_of_ble_eq_true rfl)
  rw [lg_entry_eq]
  generalize (lg_sl ([.ref h0, .int x]) ++ List.replicate (2 - (lg_sl ([.ref h0, .int x])).length) Slot.unset).toArray = ls at hl ⊢
  have hl : lv_has ls 2 [(0, .ref h0), (1, .int x)] := hl
  refine lv_iload_n hx hb dX0_isPeer_0 rfl (lv_at hl 1 rfl) ?_
  refine lv_iconst (v := 2) hx hb dX0_isPeer_1 (by decide) ?_
  refine lv_icmp_lt (tgt := 19) hx hb dX0_isPeer_2 (by decide) (fun c_2 => ?_) (fun c_2 => ?_)
  · have hno : ¬ dk_pe x dp := fun q => dk_not_lt.mpr q.1 c_2
    refine lv_iconst (v := 0) hx hb dX0_isPeer_19 (by decide) ?_
    exact W.zret (v := 0) (ty := .boolean) hx hb hr rfl (fun t ht hW => ⟨_, rfl, (if_neg (show ¬ (dk_pe x dp) from hno)).symm, ht⟩) (fun q h => nomatch h) dX0_isPeer_20
  · refine lv_iload_n hx hb dX0_isPeer_5 rfl (lv_at hl 1 rfl) ?_
    refine lv_aload_n hx hb dX0_isPeer_6 rfl (lv_at hl 0 rfl) ?_
    refine va_get (D := (dC, dI)) (ci := 0) (v := .int dp) (C := RX0) (T := TX0) (N := 9) hx hb hts (by decide +kernel) hown hK hP 0 rfl rfl 4 (by decide) (hts (.fieldLink RX0 63 "DomainKeys" "domainP" "I") (by decide +kernel)) (fun _ h9 => h9) rfl dX0_isPeer_7 ?_
    refine lv_iconst (v := 2) hx hb dX0_isPeer_10 (by decide) ?_
    refine lv_isub hx hb dX0_isPeer_11 ?_
    refine lv_icmp_gt (tgt := 19) hx hb dX0_isPeer_12 (by decide) (fun c_12 => ?_) (fun c_12 => ?_)
    · have hno : ¬ dk_pe x dp := fun q => dk_not_lt.mpr q.2 c_12
      refine lv_iconst (v := 0) hx hb dX0_isPeer_19 (by decide) ?_
      exact W.zret (v := 0) (ty := .boolean) hx hb hr rfl (fun t ht hW => ⟨_, rfl, (if_neg (show ¬ (dk_pe x dp) from hno)).symm, ht⟩) (fun q h => nomatch h) dX0_isPeer_20
    · have hyes : dk_pe x dp := ⟨dk_not_lt.mp c_2, dk_not_lt.mp c_12⟩
      refine lv_iconst (v := 1) hx hb dX0_isPeer_15 (by decide) ?_
      refine lv_goto (tgt := 20) hx hb dX0_isPeer_16 (by decide) ?_
      exact W.zret (v := 1) (ty := .boolean) hx hb hr rfl (fun t ht hW => ⟨_, rfl, (if_pos (show dk_pe x dp from hyes)).symm, ht⟩) (fun q h => nomatch h) dX0_isPeer_20

set_option maxHeartbeats 4000000 in
set_option maxRecDepth 100000 in
theorem dk_c_candidate (l : Launch) (dC : Nat → ClassId) (dI : Nat → Nat → Nat) (h0 h1 h2 : Nat) (a1 a2 : ClassId) (cp cq : Int32) (cs : Int64) (cn dp dq dg : Int32) (se pu : Nat → Int32) (x : Int32) : Met l yX0_candidate wsX0_candidate ({ frames := 0, cells := 0, slots := 0, locals := 0 }) (va_Pc [.ref h0, .int x] (fun U => va_P (dC, dI) vwCl [(h0, .inr (0, [.int cp, .int cq, .long cs, .int cn, .int dp, .int dq, .int dg, .ref h1, .ref h2])), (h1, .inl (a1, 8, .inl se)), (h2, .inl (a2, 8, .inl pu))] U.heap ∧ va_K (dC, dI) vwCl [(a1, .int), (a2, .int)] U)) (vp_Sl (fun r9 => r9 = dk_fcand cp cq cs cn x)) 0 0 (fun _ => False) := by
  refine Met.ofW (cc := cX0_candidate) (maxL := 2) (ret := (some .long)) (by decide) rfl ?_
  intro p e s m args below meth c s₁ B hml hv
  obtain ⟨rfl, hP, hK⟩ := hv
  have hx := B.exec
  have hb := B.bytes
  have hr := B.returns
  have hts := atoms_spec (ws := wsX0_candidate) B.pre
  have hown : s.vm.findClass RX0 = some m.cls := findClass_of_methodNamed B.named
  have hlocks := B.notSynchronized
  have hl := lv_entry ([.ref h0, .int x]) (n := 2) (Nat.le_of_ble_eq_true rfl)
  rw [lg_entry_eq]
  generalize (lg_sl ([.ref h0, .int x]) ++ List.replicate (2 - (lg_sl ([.ref h0, .int x])).length) Slot.unset).toArray = ls at hl ⊢
  have hl : lv_has ls 2 [(0, .ref h0), (1, .int x)] := hl
  refine lv_iload_n hx hb dX0_candidate_0 rfl (lv_at hl 1 rfl) ?_
  rcases dk_sw4 x with h_sw | h_sw | h_sw | h_sw | ⟨h_sw, h_sw0, h_sw1, h_sw2, h_sw3⟩
  · subst h_sw
    refine lv_tableIn (tgt := 32) (off := 31) hx hb dX0_candidate_1 (by decide) (by decide) (by decide) (by decide) ?_
    refine lv_aload_n hx hb dX0_candidate_32 rfl (lv_at hl 0 rfl) ?_
    refine va_get (D := (dC, dI)) (ci := 0) (v := .int cp) (C := RX0) (T := TX0) (N := 9) hx hb hts (by decide +kernel) hown hK hP 0 rfl rfl 0 (by decide) (hts (.fieldLink RX0 31 "DomainKeys" "candidateP" "I") (by decide +kernel)) (fun _ h9 => h9) rfl dX0_candidate_33 ?_
    refine lv_i2l hx hb dX0_candidate_36 rfl ?_
    exact W.lret (v := cp.toInt64) hx hb hr (fun t ht hW => ⟨_, rfl, rfl, ht⟩) (fun q h => nomatch h) dX0_candidate_37
  · subst h_sw
    refine lv_tableIn (tgt := 38) (off := 37) hx hb dX0_candidate_1 (by decide) (by decide) (by decide) (by decide) ?_
    refine lv_aload_n hx hb dX0_candidate_38 rfl (lv_at hl 0 rfl) ?_
    refine va_get (D := (dC, dI)) (ci := 0) (v := .int cq) (C := RX0) (T := TX0) (N := 9) hx hb hts (by decide +kernel) hown hK hP 0 rfl rfl 1 (by decide) (hts (.fieldLink RX0 23 "DomainKeys" "candidateQ" "I") (by decide +kernel)) (fun _ h9 => h9) rfl dX0_candidate_39 ?_
    refine lv_i2l hx hb dX0_candidate_42 rfl ?_
    exact W.lret (v := cq.toInt64) hx hb hr (fun t ht hW => ⟨_, rfl, rfl, ht⟩) (fun q h => nomatch h) dX0_candidate_43
  · subst h_sw
    refine lv_tableIn (tgt := 44) (off := 43) hx hb dX0_candidate_1 (by decide) (by decide) (by decide) (by decide) ?_
    refine lv_aload_n hx hb dX0_candidate_44 rfl (lv_at hl 0 rfl) ?_
    refine va_get (D := (dC, dI)) (ci := 0) (v := .long cs) (C := RX0) (T := TX0) (N := 9) hx hb hts (by decide +kernel) hown hK hP 0 rfl rfl 2 (by decide) (hts (.fieldLink RX0 34 "DomainKeys" "candidateSeed" "J") (by decide +kernel)) (fun _ h9 => h9) rfl dX0_candidate_45 ?_
    exact W.lret (v := cs) hx hb hr (fun t ht hW => ⟨_, rfl, rfl, ht⟩) (fun q h => nomatch h) dX0_candidate_48
  · subst h_sw
    refine lv_tableIn (tgt := 49) (off := 48) hx hb dX0_candidate_1 (by decide) (by decide) (by decide) (by decide) ?_
    refine lv_aload_n hx hb dX0_candidate_49 rfl (lv_at hl 0 rfl) ?_
    refine va_get (D := (dC, dI)) (ci := 0) (v := .int cn) (C := RX0) (T := TX0) (N := 9) hx hb hts (by decide +kernel) hown hK hP 0 rfl rfl 3 (by decide) (hts (.fieldLink RX0 38 "DomainKeys" "candidateCounter" "I") (by decide +kernel)) (fun _ h9 => h9) rfl dX0_candidate_50 ?_
    refine lv_i2l hx hb dX0_candidate_53 rfl ?_
    exact W.lret (v := cn.toInt64) hx hb hr (fun t ht hW => ⟨_, rfl, rfl, ht⟩) (fun q h => nomatch h) dX0_candidate_54
  · refine lv_tableOut (tgt := 55) hx hb dX0_candidate_1 h_sw (by decide) ?_
    refine lv_lconst (v := 0) hx hb dX0_candidate_55 (by decide) ?_
    exact W.lret (v := 0) hx hb hr (fun t ht hW => ⟨_, rfl, (by rw [dk_fcand, if_neg h_sw0, if_neg h_sw1, if_neg h_sw2, if_neg h_sw3]), ht⟩) (fun q h => nomatch h) dX0_candidate_56

set_option maxHeartbeats 4000000 in
set_option maxRecDepth 100000 in
theorem dk_c_domain (l : Launch) (dC : Nat → ClassId) (dI : Nat → Nat → Nat) (h0 h1 h2 : Nat) (a1 a2 : ClassId) (cp cq : Int32) (cs : Int64) (cn dp dq dg : Int32) (se pu : Nat → Int32) (x : Int32) : Met l yX0_domain wsX0_domain ({ frames := 0, cells := 0, slots := 0, locals := 0 }) (va_Pc [.ref h0, .int x] (fun U => va_P (dC, dI) vwCl [(h0, .inr (0, [.int cp, .int cq, .long cs, .int cn, .int dp, .int dq, .int dg, .ref h1, .ref h2])), (h1, .inl (a1, 8, .inl se)), (h2, .inl (a2, 8, .inl pu))] U.heap ∧ va_K (dC, dI) vwCl [(a1, .int), (a2, .int)] U)) (vp_Si (fun r9 => r9 = dk_fdom dp dq dg x)) 0 0 (fun _ => False) := by
  refine Met.ofW (cc := cX0_domain) (maxL := 2) (ret := (some .int)) (by decide) rfl ?_
  intro p e s m args below meth c s₁ B hml hv
  obtain ⟨rfl, hP, hK⟩ := hv
  have hx := B.exec
  have hb := B.bytes
  have hr := B.returns
  have hts := atoms_spec (ws := wsX0_domain) B.pre
  have hown : s.vm.findClass RX0 = some m.cls := findClass_of_methodNamed B.named
  have hlocks := B.notSynchronized
  have hl := lv_entry ([.ref h0, .int x]) (n := 2) (Nat.le_of_ble_eq_true rfl)
  rw [lg_entry_eq]
  generalize (lg_sl ([.ref h0, .int x]) ++ List.replicate (2 - (lg_sl ([.ref h0, .int x])).length) Slot.unset).toArray = ls at hl ⊢
  have hl : lv_has ls 2 [(0, .ref h0), (1, .int x)] := hl
  refine lv_iload_n hx hb dX0_domain_0 rfl (lv_at hl 1 rfl) ?_
  rcases dk_sw3 x with h_sw | h_sw | h_sw | ⟨h_sw, h_sw0, h_sw1, h_sw2⟩
  · subst h_sw
    refine lv_tableIn (tgt := 28) (off := 27) hx hb dX0_domain_1 (by decide) (by decide) (by decide) (by decide) ?_
    refine lv_aload_n hx hb dX0_domain_28 rfl (lv_at hl 0 rfl) ?_
    refine va_get (D := (dC, dI)) (ci := 0) (v := .int dp) (C := RX0) (T := TX0) (N := 9) hx hb hts (by decide +kernel) hown hK hP 0 rfl rfl 4 (by decide) (hts (.fieldLink RX0 63 "DomainKeys" "domainP" "I") (by decide +kernel)) (fun _ h9 => h9) rfl dX0_domain_29 ?_
    exact W.iret (v := dp) hx hb hr (fun t ht hW => ⟨_, rfl, rfl, ht⟩) (fun q h => nomatch h) dX0_domain_32
  · subst h_sw
    refine lv_tableIn (tgt := 33) (off := 32) hx hb dX0_domain_1 (by decide) (by decide) (by decide) (by decide) ?_
    refine lv_aload_n hx hb dX0_domain_33 rfl (lv_at hl 0 rfl) ?_
    refine va_get (D := (dC, dI)) (ci := 0) (v := .int dq) (C := RX0) (T := TX0) (N := 9) hx hb hts (by decide +kernel) hown hK hP 0 rfl rfl 5 (by decide) (hts (.fieldLink RX0 66 "DomainKeys" "domainQ" "I") (by decide +kernel)) (fun _ h9 => h9) rfl dX0_domain_34 ?_
    exact W.iret (v := dq) hx hb hr (fun t ht hW => ⟨_, rfl, rfl, ht⟩) (fun q h => nomatch h) dX0_domain_37
  · subst h_sw
    refine lv_tableIn (tgt := 38) (off := 37) hx hb dX0_domain_1 (by decide) (by decide) (by decide) (by decide) ?_
    refine lv_aload_n hx hb dX0_domain_38 rfl (lv_at hl 0 rfl) ?_
    refine va_get (D := (dC, dI)) (ci := 0) (v := .int dg) (C := RX0) (T := TX0) (N := 9) hx hb hts (by decide +kernel) hown hK hP 0 rfl rfl 6 (by decide) (hts (.fieldLink RX0 69 "DomainKeys" "domainG" "I") (by decide +kernel)) (fun _ h9 => h9) rfl dX0_domain_39 ?_
    exact W.iret (v := dg) hx hb hr (fun t ht hW => ⟨_, rfl, rfl, ht⟩) (fun q h => nomatch h) dX0_domain_42
  · refine lv_tableOut (tgt := 43) hx hb dX0_domain_1 h_sw (by decide) ?_
    refine lv_iconst (v := 0) hx hb dX0_domain_43 (by decide) ?_
    exact W.iret (v := 0) hx hb hr (fun t ht hW => ⟨_, rfl, (by rw [dk_fdom, if_neg h_sw0, if_neg h_sw1, if_neg h_sw2]), ht⟩) (fun q h => nomatch h) dX0_domain_44

set_option maxHeartbeats 4000000 in
set_option maxRecDepth 100000 in
theorem dk_c_digest (l : Launch) (h0 : Nat) (a : Int64) : Met l yX0_digest wsX0_digest ({ frames := 1, cells := 0, slots := 0, locals := 25 }) (va_Pc [.ref h0, .long a] (fun _ => True)) (vp_Si (fun r9 => r9 = nI (dk_z a))) 0 0 (fun _ => False) := by
  refine Met.ofW (cc := cX0_digest) (maxL := 3) (ret := (some .int)) (by decide) rfl ?_
  intro p e s m args below meth c s₁ B hml hv
  obtain ⟨rfl, -⟩ := hv
  have hx := B.exec
  have hb := B.bytes
  have hr := B.returns
  have hts := atoms_spec (ws := wsX0_digest) B.pre
  have hown : s.vm.findClass RX0 = some m.cls := findClass_of_methodNamed B.named
  have hlocks := B.notSynchronized
  have hl := lv_entry ([.ref h0, .long a]) (n := 3) (Nat.le_of_ble_eq_true rfl)
  rw [lg_entry_eq]
  generalize (lg_sl ([.ref h0, .long a]) ++ List.replicate (3 - (lg_sl ([.ref h0, .long a])).length) Slot.unset).toArray = ls at hl ⊢
  have hl : lv_has ls 3 [(0, .ref h0), (1, .long a)] := hl
  refine lv_lload_n hx hb dX0_digest_0 rfl (lv_at hl 1 rfl) ?_
  refine lv_ldc2 (v := 3) hx hb hown (hts (.constantLong RX0 103 3) (by decide +kernel)) dX0_digest_1 ?_
  refine vp_callSl (W.runS (As := [.long a, .long 3]) (rest := []) ⟨hx, hb, hml, hown, hts⟩ (dk_c_mix l a 3) (va_cwS 2 hts gX0_digest_X0_mix rfl rfl rfl (by decide +kernel) ⟨Nat.le_of_ble_eq_true rfl, Nat.le_of_ble_eq_true rfl⟩) ⟨fun _ _ _ _ q9 => q9, fun U hU hW => ⟨rfl, trivial⟩⟩ rfl rfl hl.1 rfl (lv_room (Nat.le_of_ble_eq_true rfl)) dX0_digest_4 ⟨Nat.le_of_ble_eq_true rfl, Nat.le_of_ble_eq_true rfl⟩) (fun r_4 hr_4 => ?_)
  subst hr_4
  refine lv_bipush (v := 49) hx hb dX0_digest_7 (by decide) ?_
  refine lv_lushr hx hb dX0_digest_9 rfl ?_
  refine lv_topl (fun v_9 ev_9 => ?_)
  have ev_9 : v_9 = lN (dk_z a) := ev_9.trans (dk_hus a 3 (k := 49) (by decide))
  subst ev_9
  refine lv_l2i hx hb dX0_digest_10 rfl ?_
  refine lv_topi (fun v_10 ev_10 => ?_)
  have ev_10 : v_10 = nI (dk_z a) := ev_10.trans (lN_i _)
  subst ev_10
  exact W.iret (v := (nI (dk_z a))) hx hb hr (fun t ht hW => ⟨_, rfl, rfl, ht⟩) (fun q h => nomatch h) dX0_digest_11

set_option maxHeartbeats 4000000 in
set_option maxRecDepth 100000 in
theorem dk_c_valid (l : Launch) (h0 : Nat) (x y : Int32) (sd : Int64) (n : Int32) : Met l yX0_valid wsX0_valid ({ frames := 3, cells := 0, slots := 0, locals := 74 }) (va_Pc [.ref h0, .int x, .int y, .long sd, .int n] (fun _ => True)) (vp_Si (fun r9 => (r9 = 1 ∧ dk_val x y sd n) ∨ (r9 = 0 ∧ ¬ dk_val x y sd n))) 0 0 (fun _ => False) := by
  refine Met.ofW (cc := cX0_valid) (maxL := 6) (ret := (some .boolean)) (by decide) rfl ?_
  intro p e s m args below meth c s₁ B hml hv
  obtain ⟨rfl, -⟩ := hv
  have hx := B.exec
  have hb := B.bytes
  have hr := B.returns
  have hts := atoms_spec (ws := wsX0_valid) B.pre
  have hown : s.vm.findClass RX0 = some m.cls := findClass_of_methodNamed B.named
  have hlocks := B.notSynchronized
  have hl := lv_entry ([.ref h0, .int x, .int y, .long sd, .int n]) (n := 6) (Nat.le_of_ble_eq_true rfl)
  rw [lg_entry_eq]
  generalize (lg_sl ([.ref h0, .int x, .int y, .long sd, .int n]) ++ List.replicate (6 - (lg_sl ([.ref h0, .int x, .int y, .long sd, .int n])).length) Slot.unset).toArray = ls at hl ⊢
  have hl : lv_has ls 6 [(0, .ref h0), (1, .int x), (2, .int y), (3, .long sd), (5, .int n)] := hl
  refine lv_iload hx hb dX0_valid_0 (lv_at hl 4 rfl) ?_
  refine lv_if_lt (tgt := 37) hx hb dX0_valid_2 (by decide) (fun c_2 => ?_) (fun c_2 => ?_)
  · have hno : ¬ dk_val x y sd n := fun ⟨d0, d, d1, d2, d3, d4, d5, d6⟩ => by
      rw [d4] at c_2
      exact nI_pos (by omega) c_2
    refine lv_iconst (v := 0) hx hb dX0_valid_37 (by decide) ?_
    exact W.zret (v := 0) (ty := .boolean) hx hb hr rfl (fun t ht hW => ⟨_, rfl, Or.inr ⟨rfl, hno⟩, ht⟩) (fun q h => nomatch h) dX0_valid_38
  · refine lv_iload_n hx hb dX0_valid_5 rfl (lv_at hl 2 rfl) ?_
    refine lv_lload_n hx hb dX0_valid_6 rfl (lv_at hl 3 rfl) ?_
    refine vp_callSi (W.runS (As := [.long sd]) (rest := [.int y]) ⟨hx, hb, hml, hown, hts⟩ (dk_c_orderFrom l sd) (va_cwS 1 hts gX0_valid_X0_orderFrom rfl rfl rfl (by decide +kernel) ⟨Nat.le_of_ble_eq_true rfl, Nat.le_of_ble_eq_true rfl⟩) ⟨fun _ _ _ _ q9 => q9, fun U hU hW => ⟨rfl, trivial⟩⟩ rfl rfl hl.1 rfl (lv_room (Nat.le_of_ble_eq_true rfl)) dX0_valid_7 ⟨Nat.le_of_ble_eq_true rfl, Nat.le_of_ble_eq_true rfl⟩) (fun r_7 hr_7 => ?_)
    subst hr_7
    refine lv_icmp_ne (tgt := 37) hx hb dX0_valid_10 (by decide) (fun c_10 => ?_) (fun c_10 => ?_)
    · have hno : ¬ dk_val x y sd n := fun ⟨d0, d, d1, d2, d3, d4, d5, d6⟩ => by
        exact c_10 d5
      refine lv_iconst (v := 0) hx hb dX0_valid_37 (by decide) ?_
      exact W.zret (v := 0) (ty := .boolean) hx hb hr rfl (fun t ht hW => ⟨_, rfl, Or.inr ⟨rfl, hno⟩, ht⟩) (fun q h => nomatch h) dX0_valid_38
    · refine lv_iload hx hb dX0_valid_13 (lv_at hl 4 rfl) ?_
      refine lv_lload_n hx hb dX0_valid_15 rfl (lv_at hl 3 rfl) ?_
      refine vp_callSi (W.runS (As := [.long sd]) (rest := [.int n]) ⟨hx, hb, hml, hown, hts⟩ (dk_c_counterFrom l sd) (va_cwS 1 hts gX0_valid_X0_counterFrom rfl rfl rfl (by decide +kernel) ⟨Nat.le_of_ble_eq_true rfl, Nat.le_of_ble_eq_true rfl⟩) ⟨fun _ _ _ _ q9 => q9, fun U hU hW => ⟨rfl, trivial⟩⟩ rfl rfl hl.1 rfl (lv_room (Nat.le_of_ble_eq_true rfl)) dX0_valid_16 ⟨Nat.le_of_ble_eq_true rfl, Nat.le_of_ble_eq_true rfl⟩) (fun r_16 hr_16 => ?_)
      refine lv_icmp_ne (tgt := 37) hx hb dX0_valid_19 (by decide) (fun c_19 => ?_) (fun c_19 => ?_)
      · have hno : ¬ dk_val x y sd n := fun ⟨d0, d, d1, d2, d3, d4, d5, d6⟩ => by
          exact c_19 (dk_Mk_one (Or.inr (Or.inl ⟨d0, d, d1, d2, d3, d4⟩)) hr_16)
        refine lv_iconst (v := 0) hx hb dX0_valid_37 (by decide) ?_
        exact W.zret (v := 0) (ty := .boolean) hx hb hr rfl (fun t ht hW => ⟨_, rfl, Or.inr ⟨rfl, hno⟩, ht⟩) (fun q h => nomatch h) dX0_valid_38
      · subst c_10
        obtain ⟨c9, hc1, hc2, hc3, hq1, rfl⟩ : ∃ c9 : Nat, c9 < 64 ∧ dk_ok sd c9 ∧ (∀ j, j < c9 → ¬ dk_ok sd j) ∧ dk_pr (dk_q sd) ∧ n = nI c9 := by
          rw [← c_19] at hr_16
          rcases hr_16 with ⟨-, q⟩ | ⟨q1, c9, q2, q3, q4, q⟩ | ⟨-, -, q⟩
          · exact absurd (by rw [q]; decide) c_2
          · exact ⟨c9, q2, q3, q4, q1, q⟩
          · exact absurd (by rw [q]; decide) c_2
        refine lv_iload_n hx hb dX0_valid_22 rfl (lv_at hl 1 rfl) ?_
        refine lv_lload_n hx hb dX0_valid_23 rfl (lv_at hl 3 rfl) ?_
        refine lv_iload_n hx hb dX0_valid_24 rfl (lv_at hl 2 rfl) ?_
        refine lv_iload hx hb dX0_valid_25 (lv_at hl 4 rfl) ?_
        refine vp_callSi (W.runS (As := [.long sd, .int (nI (dk_q sd)), .int (nI c9)]) (rest := [.int x]) ⟨hx, hb, hml, hown, hts⟩ (dk_c_fieldTry l sd c9 hc1) (va_cwS 3 hts gX0_valid_X0_fieldTry rfl rfl rfl (by decide +kernel) ⟨Nat.le_of_ble_eq_true rfl, Nat.le_of_ble_eq_true rfl⟩) ⟨fun _ _ _ _ q9 => q9, fun U hU hW => ⟨rfl, trivial⟩⟩ rfl rfl hl.1 rfl (lv_room (Nat.le_of_ble_eq_true rfl)) dX0_valid_27 ⟨Nat.le_of_ble_eq_true rfl, Nat.le_of_ble_eq_true rfl⟩) (fun r_27 hr_27 => ?_)
        subst hr_27
        refine lv_icmp_ne (tgt := 37) hx hb dX0_valid_30 (by decide) (fun c_30 => ?_) (fun c_30 => ?_)
        · have hno : ¬ dk_val x (nI (dk_q sd)) sd (nI c9) := fun ⟨d0, d, d1, d2, d3, d4, d5, d6⟩ => by
            have q1 : c9 = d := (nI_eq (by omega) (by omega)).mp d4
            subst q1
            exact c_30 d6
          refine lv_iconst (v := 0) hx hb dX0_valid_37 (by decide) ?_
          exact W.zret (v := 0) (ty := .boolean) hx hb hr rfl (fun t ht hW => ⟨_, rfl, Or.inr ⟨rfl, hno⟩, ht⟩) (fun q h => nomatch h) dX0_valid_38
        · have hyes : dk_val x (nI (dk_q sd)) sd (nI c9) := ⟨hq1, c9, hc1, hc2, hc3, rfl, rfl, c_30⟩
          refine lv_iconst (v := 1) hx hb dX0_valid_33 (by decide) ?_
          refine lv_goto (tgt := 38) hx hb dX0_valid_34 (by decide) ?_
          exact W.zret (v := 1) (ty := .boolean) hx hb hr rfl (fun t ht hW => ⟨_, rfl, Or.inl ⟨rfl, hyes⟩, ht⟩) (fun q h => nomatch h) dX0_valid_38

set_option maxHeartbeats 4000000 in
set_option maxRecDepth 100000 in
theorem dk_generatorAt_loop {p : Program} {l : Launch} {e : Env} {s : State} {m : MethodId} {args : Array Value} {below : List Frame} {meth : Method} {c : Code} {Q : State → Prop} (dC : Nat → ClassId) (dI : Nat → Nat → Nat) (h0 h1 h2 : Nat) (a1 a2 : ClassId) (cp cq : Int32) (cs : Int64) (cn dp dq dg : Int32) (se pu : Nat → Int32) (P Q9 ix : Nat) (hP0 : 2 ≤ P) (hP9 : P < 2147483648) (hQ0 : 1 ≤ Q9) (hQ9 : Q9 < 2147483648) (hix : ix < 256) (hx : p.tables.exec = Jvm.exec) (hb : c.code = cX0_generatorAt) (hml : c.maxLocals = 8) (hown : s.vm.findClass RX0 = some m.cls) (hts : ∀ w ∈ wsX0_generatorAt, w.before args s = true) (hP : va_P (dC, dI) vwCl [(h0, .inr (0, [.int (nI P), .int (nI Q9), .long cs, .int cn, .int dp, .int dq, .int dg, .ref h1, .ref h2])), (h1, .inl (a1, 8, .inl se)), (h2, .inl (a2, 8, .inl pu))] s.heap) (hK : va_K (dC, dI) vwCl [(a1, .int), (a2, .int)] s) (k1 : ∀ (pc : Nat) (r : Int32) (ls : Array Slot), (pc = 75 ∨ pc = 83) → dk_Gn cs ix P Q9 r → W p l e (headSpec wsX0_generatorAt ({ frames := 1, cells := 0, slots := 0, locals := 25 })).room s m args below meth c s.heap [] 0 0 Q (F0 m pc ls [.int r])) :
    ∀ (n k9 : Nat) (ls : Array Slot), 102 ≤ k9 + n → 1 ≤ k9 → k9 ≤ 101 → (∀ j, 1 ≤ j → j < k9 → ¬ 1 < dk_g cs ix P Q9 j) → lv_has ls 8 [(0, .ref h0), (2, .long (dk_H cs (lN (100 + ix)))), (4, .int (nI ((P - 1) / Q9))), (5, .int (nI k9))] → W p l e (headSpec wsX0_generatorAt ({ frames := 1, cells := 0, slots := 0, locals := 25 })).room s m args below meth c s.heap [] 0 0 Q (F0 m 29 ls []) := by
  intro n
  induction n with
  | zero =>
    intro k9 ls h1 h2 h3
    exact absurd h1 (by omega)
  | succ n ih =>
    intro k9 ls h1 h2 h3 h4 hl
    have hg : dk_g cs ix P Q9 k9 < P := Nat.mod_lt _ (by omega)
    have hw9 : dk_w cs ix P k9 < P := Nat.mod_lt _ (by omega)
    have hcf : (P - 1) / Q9 ≤ P - 1 := Nat.div_le_self _ _
    have hhl := dk_hN_lt (dk_H cs (lN (100 + ix))) (lN k9)
    refine lv_iload hx hb dX0_generatorAt_29 (lv_at hl 3 rfl) ?_
    refine lv_bipush (v := 100) hx hb dX0_generatorAt_31 (by decide) ?_
    refine lv_icmp_gt (tgt := 82) hx hb dX0_generatorAt_33 (by decide) (fun c_33 => ?_) (fun c_33 => ?_)
    · have hk9 : 100 < k9 := (nI_ltI (by omega) (by omega)).mp c_33
      refine lv_iconst (v := 1) hx hb dX0_generatorAt_82 (by decide) ?_
      exact k1 83 _ ls (Or.inr rfl) (Or.inr ⟨fun j q1 q2 => h4 j q1 (by omega), rfl⟩)
    · have hk9 : k9 ≤ 100 := by
        rcases Nat.lt_or_ge 100 k9 with q | q
        · exact absurd ((nI_ltI (a := 100) (b := k9) (by omega) (by omega)).mpr q) c_33
        · exact q
      refine lv_lload_n hx hb dX0_generatorAt_36 rfl (lv_at hl 1 rfl) ?_
      refine lv_iload hx hb dX0_generatorAt_37 (lv_at hl 3 rfl) ?_
      refine lv_i2l hx hb dX0_generatorAt_39 rfl ?_
      refine lv_topl (fun v_39 ev_39 => ?_)
      have ev_39 : v_39 = lN k9 := ev_39.trans (nI_l (by omega))
      subst ev_39
      refine vp_callSl (W.runS (As := [.long (dk_H cs (lN (100 + ix))), .long (lN k9)]) (rest := []) ⟨hx, hb, hml, hown, hts⟩ (dk_c_mix l (dk_H cs (lN (100 + ix))) (lN k9)) (va_cwS 2 hts gX0_generatorAt_X0_mix rfl rfl rfl (by decide +kernel) ⟨Nat.le_of_ble_eq_true rfl, Nat.le_of_ble_eq_true rfl⟩) ⟨fun _ _ _ _ q9 => q9, fun U hU hW => ⟨rfl, trivial⟩⟩ rfl rfl hl.1 rfl (lv_room (Nat.le_of_ble_eq_true rfl)) dX0_generatorAt_40 ⟨Nat.le_of_ble_eq_true rfl, Nat.le_of_ble_eq_true rfl⟩) (fun r_40 hr_40 => ?_)
      subst hr_40
      refine lv_iconst (v := 1) hx hb dX0_generatorAt_43 (by decide) ?_
      refine lv_lushr hx hb dX0_generatorAt_44 rfl ?_
      refine lv_topl (fun v_44 ev_44 => ?_)
      have ev_44 : v_44 = lN (dk_hN (dk_H cs (lN (100 + ix))) (lN k9) / 2) := ev_44.trans (dk_hus _ _ (k := 1) (by decide))
      subst ev_44
      refine lv_aload_n hx hb dX0_generatorAt_45 rfl (lv_at hl 0 rfl) ?_
      refine va_get (D := (dC, dI)) (ci := 0) (v := .int (nI P)) (C := RX0) (T := TX0) (N := 9) hx hb hts (by decide +kernel) hown hK hP 0 rfl rfl 0 (by decide) (hts (.fieldLink RX0 31 "DomainKeys" "candidateP" "I") (by decide +kernel)) (fun _ h9 => h9) rfl dX0_generatorAt_46 ?_
      refine lv_i2l hx hb dX0_generatorAt_49 rfl ?_
      refine lv_topl (fun v_49 ev_49 => ?_)
      have ev_49 : v_49 = lN P := ev_49.trans (nI_l (by omega))
      subst ev_49
      refine lv_lrem hx hb dX0_generatorAt_50 (dk_lne (by omega) (by omega)) ?_
      refine lv_topl (fun v_50 ev_50 => ?_)
      have ev_50 : v_50 = lN (dk_w cs ix P k9) := ev_50.trans (pk_lRem (by omega) (by omega) (by omega))
      subst ev_50
      refine lv_l2i hx hb dX0_generatorAt_51 rfl ?_
      refine lv_topi (fun v_51 ev_51 => ?_)
      have ev_51 : v_51 = nI (dk_w cs ix P k9) := ev_51.trans (lN_i _)
      subst ev_51
      refine lv_istore (lv' := [(6, .int (nI (dk_w cs ix P k9))), (0, .ref h0), (2, .long (dk_H cs (lN (100 + ix)))), (4, .int (nI ((P - 1) / Q9))), (5, .int (nI k9))]) hx hb dX0_generatorAt_52 hl (by decide) rfl (fun ls hl => ?_)
      refine lv_iload hx hb dX0_generatorAt_54 (lv_at hl 0 rfl) ?_
      refine lv_iload hx hb dX0_generatorAt_56 (lv_at hl 3 rfl) ?_
      refine lv_aload_n hx hb dX0_generatorAt_58 rfl (lv_at hl 1 rfl) ?_
      refine va_get (D := (dC, dI)) (ci := 0) (v := .int (nI P)) (C := RX0) (T := TX0) (N := 9) hx hb hts (by decide +kernel) hown hK hP 0 rfl rfl 0 (by decide) (hts (.fieldLink RX0 31 "DomainKeys" "candidateP" "I") (by decide +kernel)) (fun _ h9 => h9) rfl dX0_generatorAt_59 ?_
      refine vp_callSi (W.runS (As := [.int (nI (dk_w cs ix P k9)), .int (nI ((P - 1) / Q9)), .int (nI P)]) (rest := []) ⟨hx, hb, hml, hown, hts⟩ (dk_c_power l (dk_w cs ix P k9) ((P - 1) / Q9) P (by omega) (by omega) hP0 hP9) (va_cwS 3 hts gX0_generatorAt_X0_power rfl rfl rfl (by decide +kernel) ⟨Nat.le_of_ble_eq_true rfl, Nat.le_of_ble_eq_true rfl⟩) ⟨fun _ _ _ _ q9 => q9, fun U hU hW => ⟨rfl, trivial⟩⟩ rfl rfl hl.1 rfl (lv_room (Nat.le_of_ble_eq_true rfl)) dX0_generatorAt_62 ⟨Nat.le_of_ble_eq_true rfl, Nat.le_of_ble_eq_true rfl⟩) (fun r_62 hr_62 => ?_)
      subst hr_62
      refine lv_istore (lv' := [(7, .int (nI (dk_g cs ix P Q9 k9))), (6, .int (nI (dk_w cs ix P k9))), (0, .ref h0), (2, .long (dk_H cs (lN (100 + ix)))), (4, .int (nI ((P - 1) / Q9))), (5, .int (nI k9))]) hx hb dX0_generatorAt_65 hl (by decide) rfl (fun ls hl => ?_)
      refine lv_iload hx hb dX0_generatorAt_67 (lv_at hl 0 rfl) ?_
      refine lv_iconst (v := 1) hx hb dX0_generatorAt_69 (by decide) ?_
      refine lv_icmp_le (tgt := 76) hx hb dX0_generatorAt_70 (by decide) (fun c_70 => ?_) (fun c_70 => ?_)
      · have hno : ¬ 1 < dk_g cs ix P Q9 k9 := fun q => by
          have := (nI_leI (b := 1) (by omega) (by omega)).mp c_70
          omega
        refine lv_iinc (v := (nI (k9 + 1))) (lv' := [(5, .int (nI (k9 + 1))), (7, .int (nI (dk_g cs ix P Q9 k9))), (6, .int (nI (dk_w cs ix P k9))), (0, .ref h0), (2, .long (dk_H cs (lN (100 + ix)))), (4, .int (nI ((P - 1) / Q9)))]) hx hb dX0_generatorAt_76 hl (k := 5) rfl (nI_1 k9) (by decide) rfl (fun ls hl => ?_)
        refine lv_goto (tgt := 29) hx hb dX0_generatorAt_79 (by decide) ?_
        exact ih (k9 + 1) ls (by omega) (by omega) (by omega) (fun j q1 q2 => if q : j < k9 then h4 j q1 q else by rw [show j = k9 by omega]; exact hno) (lv_sub hl [3, 4, 5, 0] rfl)
      · have hyes : 1 < dk_g cs ix P Q9 k9 := by
          rcases Nat.lt_or_ge 1 (dk_g cs ix P Q9 k9) with q | q
          · exact q
          · exact absurd ((nI_leI (a := dk_g cs ix P Q9 k9) (b := 1) (by omega) (by omega)).mpr q) c_70
        refine lv_iload hx hb dX0_generatorAt_73 (lv_at hl 0 rfl) ?_
        exact k1 75 _ ls (Or.inl rfl) (Or.inl ⟨k9, h2, hk9, hyes, h4, rfl⟩)

set_option maxHeartbeats 4000000 in
set_option maxRecDepth 100000 in
theorem dk_c_generatorAt (l : Launch) (dC : Nat → ClassId) (dI : Nat → Nat → Nat) (h0 h1 h2 : Nat) (a1 a2 : ClassId) (cp cq : Int32) (cs : Int64) (cn dp dq dg : Int32) (se pu : Nat → Int32) (P Q9 ix : Nat) (hP0 : 2 ≤ P) (hP9 : P < 2147483648) (hQ0 : 1 ≤ Q9) (hQ9 : Q9 < 2147483648) (hix : ix < 256) : Met l yX0_generatorAt wsX0_generatorAt ({ frames := 1, cells := 0, slots := 0, locals := 25 }) (va_Pc [.ref h0, .int (nI ix)] (fun U => va_P (dC, dI) vwCl [(h0, .inr (0, [.int (nI P), .int (nI Q9), .long cs, .int cn, .int dp, .int dq, .int dg, .ref h1, .ref h2])), (h1, .inl (a1, 8, .inl se)), (h2, .inl (a2, 8, .inl pu))] U.heap ∧ va_K (dC, dI) vwCl [(a1, .int), (a2, .int)] U)) (vp_Si (fun r9 => dk_Gn cs ix P Q9 r9)) 0 0 (fun _ => False) := by
  refine Met.ofW (cc := cX0_generatorAt) (maxL := 8) (ret := (some .int)) (by decide) rfl ?_
  intro p e s m args below meth c s₁ B hml hv
  obtain ⟨rfl, hP, hK⟩ := hv
  have hx := B.exec
  have hb := B.bytes
  have hr := B.returns
  have hts := atoms_spec (ws := wsX0_generatorAt) B.pre
  have hown : s.vm.findClass RX0 = some m.cls := findClass_of_methodNamed B.named
  have hlocks := B.notSynchronized
  have hl := lv_entry ([.ref h0, .int (nI ix)]) (n := 8) (Nat.le_of_ble_eq_true rfl)
  rw [lg_entry_eq]
  generalize (lg_sl ([.ref h0, .int (nI ix)]) ++ List.replicate (8 - (lg_sl ([.ref h0, .int (nI ix)])).length) Slot.unset).toArray = ls at hl ⊢
  have hl : lv_has ls 8 [(0, .ref h0), (1, .int (nI ix))] := hl
  refine lv_aload_n hx hb dX0_generatorAt_0 rfl (lv_at hl 0 rfl) ?_
  refine va_get (D := (dC, dI)) (ci := 0) (v := .long cs) (C := RX0) (T := TX0) (N := 9) hx hb hts (by decide +kernel) hown hK hP 0 rfl rfl 2 (by decide) (hts (.fieldLink RX0 34 "DomainKeys" "candidateSeed" "J") (by decide +kernel)) (fun _ h9 => h9) rfl dX0_generatorAt_1 ?_
  refine lv_bipush (v := 100) hx hb dX0_generatorAt_4 (by decide) ?_
  refine lv_iload_n hx hb dX0_generatorAt_6 rfl (lv_at hl 1 rfl) ?_
  refine lv_iadd hx hb dX0_generatorAt_7 ?_
  refine lv_topi (fun v_7 ev_7 => ?_)
  have ev_7 : v_7 = nI (100 + ix) := ev_7.trans (nI_add 100 ix)
  subst ev_7
  refine lv_i2l hx hb dX0_generatorAt_8 rfl ?_
  refine lv_topl (fun v_8 ev_8 => ?_)
  have ev_8 : v_8 = lN (100 + ix) := ev_8.trans (nI_l (by omega))
  subst ev_8
  refine vp_callSl (W.runS (As := [.long cs, .long (lN (100 + ix))]) (rest := []) ⟨hx, hb, hml, hown, hts⟩ (dk_c_mix l cs (lN (100 + ix))) (va_cwS 2 hts gX0_generatorAt_X0_mix rfl rfl rfl (by decide +kernel) ⟨Nat.le_of_ble_eq_true rfl, Nat.le_of_ble_eq_true rfl⟩) ⟨fun _ _ _ _ q9 => q9, fun U hU hW => ⟨rfl, trivial⟩⟩ rfl rfl hl.1 rfl (lv_room (Nat.le_of_ble_eq_true rfl)) dX0_generatorAt_9 ⟨Nat.le_of_ble_eq_true rfl, Nat.le_of_ble_eq_true rfl⟩) (fun r_9 hr_9 => ?_)
  subst hr_9
  refine lv_lstore_n (lv' := [(2, .long (dk_H cs (lN (100 + ix)))), (0, .ref h0), (1, .int (nI ix))]) hx hb dX0_generatorAt_12 rfl hl (by decide) rfl (fun ls hl => ?_)
  refine lv_aload_n hx hb dX0_generatorAt_13 rfl (lv_at hl 1 rfl) ?_
  refine va_get (D := (dC, dI)) (ci := 0) (v := .int (nI P)) (C := RX0) (T := TX0) (N := 9) hx hb hts (by decide +kernel) hown hK hP 0 rfl rfl 0 (by decide) (hts (.fieldLink RX0 31 "DomainKeys" "candidateP" "I") (by decide +kernel)) (fun _ h9 => h9) rfl dX0_generatorAt_14 ?_
  refine lv_iconst (v := 1) hx hb dX0_generatorAt_17 (by decide) ?_
  refine lv_isub hx hb dX0_generatorAt_18 ?_
  refine lv_topi (fun v_18 ev_18 => ?_)
  have ev_18 : v_18 = nI (P - 1) := ev_18.trans (pk_sub (b := 1) (by omega))
  subst ev_18
  refine lv_aload_n hx hb dX0_generatorAt_19 rfl (lv_at hl 1 rfl) ?_
  refine va_get (D := (dC, dI)) (ci := 0) (v := .int (nI Q9)) (C := RX0) (T := TX0) (N := 9) hx hb hts (by decide +kernel) hown hK hP 0 rfl rfl 1 (by decide) (hts (.fieldLink RX0 23 "DomainKeys" "candidateQ" "I") (by decide +kernel)) (fun _ h9 => h9) rfl dX0_generatorAt_20 ?_
  refine lv_idiv hx hb dX0_generatorAt_23 (nI_ne0 (by omega) (by omega)) ?_
  refine lv_topi (fun v_23 ev_23 => ?_)
  have ev_23 : v_23 = nI ((P - 1) / Q9) := ev_23.trans (pk_div (by omega) (by omega) (by omega))
  subst ev_23
  refine lv_istore (lv' := [(4, .int (nI ((P - 1) / Q9))), (2, .long (dk_H cs (lN (100 + ix)))), (0, .ref h0), (1, .int (nI ix))]) hx hb dX0_generatorAt_24 hl (by decide) rfl (fun ls hl => ?_)
  refine lv_iconst (v := 1) hx hb dX0_generatorAt_26 (by decide) ?_
  refine lv_istore (lv' := [(5, .int 1), (4, .int (nI ((P - 1) / Q9))), (2, .long (dk_H cs (lN (100 + ix)))), (0, .ref h0), (1, .int (nI ix))]) hx hb dX0_generatorAt_27 hl (by decide) rfl (fun ls hl => ?_)
  refine dk_generatorAt_loop dC dI h0 h1 h2 a1 a2 cp cq cs cn dp dq dg se pu P Q9 ix hP0 hP9 hQ0 hQ9 hix hx hb hml hown hts hP hK (fun pc r ls hpc hgn => ?_) 101 1 ls (by omega) (by omega) (by omega) (fun j q1 q2 => absurd q2 (by omega)) (lv_sub hl [3, 2, 1, 0] rfl)
  rcases hpc with rfl | rfl
  · exact W.iret (v := r) hx hb hr (fun t ht hW => ⟨_, rfl, hgn, ht⟩) (fun q h => nomatch h) dX0_generatorAt_75
  · exact W.iret (v := r) hx hb hr (fun t ht hW => ⟨_, rfl, hgn, ht⟩) (fun q h => nomatch h) dX0_generatorAt_83
