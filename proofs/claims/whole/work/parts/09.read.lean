set_option maxHeartbeats 4000000 in
set_option maxRecDepth 100000 in
theorem dk_c_isExponent (l : Launch) (dC : Nat → ClassId) (dI : Nat → Nat → Nat) (h0 h1 h2 : Nat) (a1 a2 : ClassId) (cp cq : Int32) (cs : Int64) (cn dp dq dg : Int32) (se pu : Nat → Int32) (x : Int32) : Met l yX0_isExponent wsX0_isExponent ({ frames := 0, cells := 0, slots := 0, locals := 0 }) (va_Pc [.ref h0, .int x] (fun U => va_P (dC, dI) vwCl [(h0, .inr (0, [.int cp, .int cq, .long cs, .int cn, .int dp, .int dq, .int dg, .ref h1, .ref h2])), (h1, .inl (a1, 8, .inl se)), (h2, .inl (a2, 8, .inl pu))] U.heap ∧ va_K (dC, dI) vwCl [(a1, .int), (a2, .int)] U)) (vp_Si (fun r9 => r9 = if dk_ex x dq then 1 else 0)) 0 0 (fun _ => False) := by
  refine Met.ofW (cc := cX0_isExponent) (maxL := 2) (ret := (some .boolean)) (by decide) rfl ?_
  intro p e s m args below meth c s₁ B hml hv
  obtain ⟨rfl, hP, hK⟩ := hv
  have hx := B.exec
  have hb := B.bytes
  have hr := B.returns
  have hts := atoms_spec (ws := wsX0_isExponent) B.pre
  have hown : s.vm.findClass RX0 = some m.cls := findClass_of_methodNamed B.named
  have hlocks := B.notSynchronized
  have hl := lv_entry ([.ref h0, .int x]) (n := 2) (Nat.le_of_ble_eq_true rfl)
  rw [lg_entry_eq]
  generalize (lg_sl ([.ref h0, .int x]) ++ List.replicate (2 - (lg_sl ([.ref h0, .int x])).length) Slot.unset).toArray = ls at hl ⊢
  have hl : lv_has ls 2 [(0, .ref h0), (1, .int x)] := hl
  refine lv_iload_n hx hb dX0_isExponent_0 rfl (lv_at hl 1 rfl) ?_
  refine lv_iconst (v := 1) hx hb dX0_isExponent_1 (by decide) ?_
  refine lv_icmp_lt (tgt := 17) hx hb dX0_isExponent_2 (by decide) (fun c_2 => ?_) (fun c_2 => ?_)
  · have hno : ¬ dk_ex x dq := fun q => dk_not_lt.mpr q.1 c_2
    refine lv_iconst (v := 0) hx hb dX0_isExponent_17 (by decide) ?_
    exact W.zret (v := 0) (ty := .boolean) hx hb hr rfl (fun t ht hW => ⟨_, rfl, (if_neg (show ¬ (dk_ex x dq) from hno)).symm, ht⟩) (fun q h => nomatch h) dX0_isExponent_18
  · refine lv_iload_n hx hb dX0_isExponent_5 rfl (lv_at hl 1 rfl) ?_
    refine lv_aload_n hx hb dX0_isExponent_6 rfl (lv_at hl 0 rfl) ?_
    refine va_get (D := (dC, dI)) (ci := 0) (v := .int dq) (C := RX0) (T := TX0) (N := 9) hx hb hts (by decide +kernel) hown hK hP 0 rfl rfl 5 (by decide) (hts (.fieldLink RX0 69 "DomainKeys" "domainQ" "I") (by decide +kernel)) (fun _ h9 => h9) rfl dX0_isExponent_7 ?_
    refine lv_icmp_ge (tgt := 17) hx hb dX0_isExponent_10 (by decide) (fun c_10 => ?_) (fun c_10 => ?_)
    · have hno : ¬ dk_ex x dq := fun q => dk_not_lt.mpr c_10 q.2
      refine lv_iconst (v := 0) hx hb dX0_isExponent_17 (by decide) ?_
      exact W.zret (v := 0) (ty := .boolean) hx hb hr rfl (fun t ht hW => ⟨_, rfl, (if_neg (show ¬ (dk_ex x dq) from hno)).symm, ht⟩) (fun q h => nomatch h) dX0_isExponent_18
    · have hyes : dk_ex x dq := ⟨dk_not_lt.mp c_2, dk_not_le.mp c_10⟩
      refine lv_iconst (v := 1) hx hb dX0_isExponent_13 (by decide) ?_
      refine lv_goto (tgt := 18) hx hb dX0_isExponent_14 (by decide) ?_
      exact W.zret (v := 1) (ty := .boolean) hx hb hr rfl (fun t ht hW => ⟨_, rfl, (if_pos (show dk_ex x dq from hyes)).symm, ht⟩) (fun q h => nomatch h) dX0_isExponent_18

set_option maxHeartbeats 4000000 in
set_option maxRecDepth 100000 in
theorem dk_c_isPeer (l : Launch) (dC : Nat → ClassId) (dI : Nat → Nat → Nat) (h0 h1 h2 : Nat) (a1 a2 : ClassId) (cp cq : Int32) (cs : Int64) (cn dp dq dg : Int32) (se pu : Nat → Int32) (x : Int32) : Met l yX0_isPeer wsX0_isPeer ({ frames := 0, cells := 0, slots := 0, locals := 0 }) (va_Pc [.ref h0, .int x] (fun U => va_P (dC, dI) vwCl [(h0, .inr (0, [.int cp, .int cq, .long cs, .int cn, .int dp, .int dq, .int dg, .ref h1, .ref h2])), (h1, .inl (a1, 8, .inl se)), (h2, .inl (a2, 8, .inl pu))] U.heap ∧ va_K (dC, dI) vwCl [(a1, .int), (a2, .int)] U)) (vp_Si (fun r9 => r9 = if dk_pe x dp then 1 else 0)) 0 0 (fun _ => False) := by
  refine Met.ofW (cc := cX0_isPeer) (maxL := 2) (ret := (some .boolean)) (by decide) rfl ?_
  intro p e s m args below meth c s₁ B hml hv
  obtain ⟨rfl, hP, hK⟩ := hv
  have hx := B.exec
  have hb := B.bytes
  have hr := B.returns
  have hts := atoms_spec (ws := wsX0_isPeer) B.pre
  have hown : s.vm.findClass RX0 = some m.cls := findClass_of_methodNamed B.named
  have hlocks := B.notSynchronized
  have hl := lv_entry ([.ref h0, .int x]) (n := 2) (Nat.le_of_ble_eq_true rfl)
  rw [lg_entry_eq]
  generalize (lg_sl ([.ref h0, .int x]) ++ List.replicate (2 - (lg_sl ([.ref h0, .int x])).length) Slot.unset).toArray = ls at hl ⊢
  have hl : lv_has ls 2 [(0, .ref h0), (1, .int x)] := hl
  refine lv_iload_n hx hb dX0_isPeer_0 rfl (lv_at hl 1 rfl) ?_
  refine lv_iconst (v := 2) hx hb dX0_isPeer_1 (by decide) ?_
  refine lv_icmp_lt (tgt := 19) hx hb dX0_isPeer_2 (by decide) (fun c_2 => ?_) (fun c_2 => ?_)
  · have hno : ¬ dk_pe x dp := fun q => dk_not_lt.mpr q.1 c_2
    refine lv_iconst (v := 0) hx hb dX0_isPeer_19 (by decide) ?_
    exact W.zret (v := 0) (ty := .boolean) hx hb hr rfl (fun t ht hW => ⟨_, rfl, (if_neg (show ¬ (dk_pe x dp) from hno)).symm, ht⟩) (fun q h => nomatch h) dX0_isPeer_20
  · refine lv_iload_n hx hb dX0_isPeer_5 rfl (lv_at hl 1 rfl) ?_
    refine lv_aload_n hx hb dX0_isPeer_6 rfl (lv_at hl 0 rfl) ?_
    refine va_get (D := (dC, dI)) (ci := 0) (v := .int dp) (C := RX0) (T := TX0) (N := 9) hx hb hts (by decide +kernel) hown hK hP 0 rfl rfl 4 (by decide) (hts (.fieldLink RX0 66 "DomainKeys" "domainP" "I") (by decide +kernel)) (fun _ h9 => h9) rfl dX0_isPeer_7 ?_
    refine lv_iconst (v := 2) hx hb dX0_isPeer_10 (by decide) ?_
    refine lv_isub hx hb dX0_isPeer_11 ?_
    refine lv_icmp_gt (tgt := 19) hx hb dX0_isPeer_12 (by decide) (fun c_12 => ?_) (fun c_12 => ?_)
    · have hno : ¬ dk_pe x dp := fun q => dk_not_lt.mpr q.2 c_12
      refine lv_iconst (v := 0) hx hb dX0_isPeer_19 (by decide) ?_
      exact W.zret (v := 0) (ty := .boolean) hx hb hr rfl (fun t ht hW => ⟨_, rfl, (if_neg (show ¬ (dk_pe x dp) from hno)).symm, ht⟩) (fun q h => nomatch h) dX0_isPeer_20
    · have hyes : dk_pe x dp := ⟨dk_not_lt.mp c_2, dk_not_lt.mp c_12⟩
      refine lv_iconst (v := 1) hx hb dX0_isPeer_15 (by decide) ?_
      refine lv_goto (tgt := 20) hx hb dX0_isPeer_16 (by decide) ?_
      exact W.zret (v := 1) (ty := .boolean) hx hb hr rfl (fun t ht hW => ⟨_, rfl, (if_pos (show dk_pe x dp from hyes)).symm, ht⟩) (fun q h => nomatch h) dX0_isPeer_20

set_option maxHeartbeats 4000000 in
set_option maxRecDepth 100000 in
theorem dk_c_candidate (l : Launch) (dC : Nat → ClassId) (dI : Nat → Nat → Nat) (h0 h1 h2 : Nat) (a1 a2 : ClassId) (cp cq : Int32) (cs : Int64) (cn dp dq dg : Int32) (se pu : Nat → Int32) (x : Int32) : Met l yX0_candidate wsX0_candidate ({ frames := 0, cells := 0, slots := 0, locals := 0 }) (va_Pc [.ref h0, .int x] (fun U => va_P (dC, dI) vwCl [(h0, .inr (0, [.int cp, .int cq, .long cs, .int cn, .int dp, .int dq, .int dg, .ref h1, .ref h2])), (h1, .inl (a1, 8, .inl se)), (h2, .inl (a2, 8, .inl pu))] U.heap ∧ va_K (dC, dI) vwCl [(a1, .int), (a2, .int)] U)) (vp_Sl (fun r9 => r9 = dk_fcand cp cq cs cn x)) 0 0 (fun _ => False) := by
  refine Met.ofW (cc := cX0_candidate) (maxL := 2) (ret := (some .long)) (by decide) rfl ?_
  intro p e s m args below meth c s₁ B hml hv
  obtain ⟨rfl, hP, hK⟩ := hv
  have hx := B.exec
  have hb := B.bytes
  have hr := B.returns
  have hts := atoms_spec (ws := wsX0_candidate) B.pre
  have hown : s.vm.findClass RX0 = some m.cls := findClass_of_methodNamed B.named
  have hlocks := B.notSynchronized
  have hl := lv_entry ([.ref h0, .int x]) (n := 2) (Nat.le_of_ble_eq_true rfl)
  rw [lg_entry_eq]
  generalize (lg_sl ([.ref h0, .int x]) ++ List.replicate (2 - (lg_sl ([.ref h0, .int x])).length) Slot.unset).toArray = ls at hl ⊢
  have hl : lv_has ls 2 [(0, .ref h0), (1, .int x)] := hl
  refine lv_iload_n hx hb dX0_candidate_0 rfl (lv_at hl 1 rfl) ?_
  rcases dk_sw4 x with h_sw | h_sw | h_sw | h_sw | ⟨h_sw, h_sw0, h_sw1, h_sw2, h_sw3⟩
  · subst h_sw
    refine lv_tableIn (tgt := 32) (off := 31) hx hb dX0_candidate_1 (by decide) (by decide) (by decide) (by decide) ?_
    refine lv_aload_n hx hb dX0_candidate_32 rfl (lv_at hl 0 rfl) ?_
    refine va_get (D := (dC, dI)) (ci := 0) (v := .int cp) (C := RX0) (T := TX0) (N := 9) hx hb hts (by decide +kernel) hown hK hP 0 rfl rfl 0 (by decide) (hts (.fieldLink RX0 31 "DomainKeys" "candidateP" "I") (by decide +kernel)) (fun _ h9 => h9) rfl dX0_candidate_33 ?_
    refine lv_i2l hx hb dX0_candidate_36 rfl ?_
    exact W.lret (v := cp.toInt64) hx hb hr (fun t ht hW => ⟨_, rfl, rfl, ht⟩) (fun q h => nomatch h) dX0_candidate_37
  · subst h_sw
    refine lv_tableIn (tgt := 38) (off := 37) hx hb dX0_candidate_1 (by decide) (by decide) (by decide) (by decide) ?_
    refine lv_aload_n hx hb dX0_candidate_38 rfl (lv_at hl 0 rfl) ?_
    refine va_get (D := (dC, dI)) (ci := 0) (v := .int cq) (C := RX0) (T := TX0) (N := 9) hx hb hts (by decide +kernel) hown hK hP 0 rfl rfl 1 (by decide) (hts (.fieldLink RX0 23 "DomainKeys" "candidateQ" "I") (by decide +kernel)) (fun _ h9 => h9) rfl dX0_candidate_39 ?_
    refine lv_i2l hx hb dX0_candidate_42 rfl ?_
    exact W.lret (v := cq.toInt64) hx hb hr (fun t ht hW => ⟨_, rfl, rfl, ht⟩) (fun q h => nomatch h) dX0_candidate_43
  · subst h_sw
    refine lv_tableIn (tgt := 44) (off := 43) hx hb dX0_candidate_1 (by decide) (by decide) (by decide) (by decide) ?_
    refine lv_aload_n hx hb dX0_candidate_44 rfl (lv_at hl 0 rfl) ?_
    refine va_get (D := (dC, dI)) (ci := 0) (v := .long cs) (C := RX0) (T := TX0) (N := 9) hx hb hts (by decide +kernel) hown hK hP 0 rfl rfl 2 (by decide) (hts (.fieldLink RX0 34 "DomainKeys" "candidateSeed" "J") (by decide +kernel)) (fun _ h9 => h9) rfl dX0_candidate_45 ?_
    exact W.lret (v := cs) hx hb hr (fun t ht hW => ⟨_, rfl, rfl, ht⟩) (fun q h => nomatch h) dX0_candidate_48
  · subst h_sw
    refine lv_tableIn (tgt := 49) (off := 48) hx hb dX0_candidate_1 (by decide) (by decide) (by decide) (by decide) ?_
    refine lv_aload_n hx hb dX0_candidate_49 rfl (lv_at hl 0 rfl) ?_
    refine va_get (D := (dC, dI)) (ci := 0) (v := .int cn) (C := RX0) (T := TX0) (N := 9) hx hb hts (by decide +kernel) hown hK hP 0 rfl rfl 3 (by decide) (hts (.fieldLink RX0 38 "DomainKeys" "candidateCounter" "I") (by decide +kernel)) (fun _ h9 => h9) rfl dX0_candidate_50 ?_
    refine lv_i2l hx hb dX0_candidate_53 rfl ?_
    exact W.lret (v := cn.toInt64) hx hb hr (fun t ht hW => ⟨_, rfl, rfl, ht⟩) (fun q h => nomatch h) dX0_candidate_54
  · refine lv_tableOut (tgt := 55) hx hb dX0_candidate_1 h_sw (by decide) ?_
    refine lv_lconst (v := 0) hx hb dX0_candidate_55 (by decide) ?_
    exact W.lret (v := 0) hx hb hr (fun t ht hW => ⟨_, rfl, (by rw [dk_fcand, if_neg h_sw0, if_neg h_sw1, if_neg h_sw2, if_neg h_sw3]), ht⟩) (fun q h => nomatch h) dX0_candidate_56

set_option maxHeartbeats 4000000 in
set_option maxRecDepth 100000 in
theorem dk_c_domain (l : Launch) (dC : Nat → ClassId) (dI : Nat → Nat → Nat) (h0 h1 h2 : Nat) (a1 a2 : ClassId) (cp cq : Int32) (cs : Int64) (cn dp dq dg : Int32) (se pu : Nat → Int32) (x : Int32) : Met l yX0_domain wsX0_domain ({ frames := 0, cells := 0, slots := 0, locals := 0 }) (va_Pc [.ref h0, .int x] (fun U => va_P (dC, dI) vwCl [(h0, .inr (0, [.int cp, .int cq, .long cs, .int cn, .int dp, .int dq, .int dg, .ref h1, .ref h2])), (h1, .inl (a1, 8, .inl se)), (h2, .inl (a2, 8, .inl pu))] U.heap ∧ va_K (dC, dI) vwCl [(a1, .int), (a2, .int)] U)) (vp_Si (fun r9 => r9 = dk_fdom dp dq dg x)) 0 0 (fun _ => False) := by
  refine Met.ofW (cc := cX0_domain) (maxL := 2) (ret := (some .int)) (by decide) rfl ?_
  intro p e s m args below meth c s₁ B hml hv
  obtain ⟨rfl, hP, hK⟩ := hv
  have hx := B.exec
  have hb := B.bytes
  have hr := B.returns
  have hts := atoms_spec (ws := wsX0_domain) B.pre
  have hown : s.vm.findClass RX0 = some m.cls := findClass_of_methodNamed B.named
  have hlocks := B.notSynchronized
  have hl := lv_entry ([.ref h0, .int x]) (n := 2) (Nat.le_of_ble_eq_true rfl)
  rw [lg_entry_eq]
  generalize (lg_sl ([.ref h0, .int x]) ++ List.replicate (2 - (lg_sl ([.ref h0, .int x])).length) Slot.unset).toArray = ls at hl ⊢
  have hl : lv_has ls 2 [(0, .ref h0), (1, .int x)] := hl
  refine lv_iload_n hx hb dX0_domain_0 rfl (lv_at hl 1 rfl) ?_
  rcases dk_sw3 x with h_sw | h_sw | h_sw | ⟨h_sw, h_sw0, h_sw1, h_sw2⟩
  · subst h_sw
    refine lv_tableIn (tgt := 28) (off := 27) hx hb dX0_domain_1 (by decide) (by decide) (by decide) (by decide) ?_
    refine lv_aload_n hx hb dX0_domain_28 rfl (lv_at hl 0 rfl) ?_
    refine va_get (D := (dC, dI)) (ci := 0) (v := .int dp) (C := RX0) (T := TX0) (N := 9) hx hb hts (by decide +kernel) hown hK hP 0 rfl rfl 4 (by decide) (hts (.fieldLink RX0 66 "DomainKeys" "domainP" "I") (by decide +kernel)) (fun _ h9 => h9) rfl dX0_domain_29 ?_
    exact W.iret (v := dp) hx hb hr (fun t ht hW => ⟨_, rfl, rfl, ht⟩) (fun q h => nomatch h) dX0_domain_32
  · subst h_sw
    refine lv_tableIn (tgt := 33) (off := 32) hx hb dX0_domain_1 (by decide) (by decide) (by decide) (by decide) ?_
    refine lv_aload_n hx hb dX0_domain_33 rfl (lv_at hl 0 rfl) ?_
    refine va_get (D := (dC, dI)) (ci := 0) (v := .int dq) (C := RX0) (T := TX0) (N := 9) hx hb hts (by decide +kernel) hown hK hP 0 rfl rfl 5 (by decide) (hts (.fieldLink RX0 69 "DomainKeys" "domainQ" "I") (by decide +kernel)) (fun _ h9 => h9) rfl dX0_domain_34 ?_
    exact W.iret (v := dq) hx hb hr (fun t ht hW => ⟨_, rfl, rfl, ht⟩) (fun q h => nomatch h) dX0_domain_37
  · subst h_sw
    refine lv_tableIn (tgt := 38) (off := 37) hx hb dX0_domain_1 (by decide) (by decide) (by decide) (by decide) ?_
    refine lv_aload_n hx hb dX0_domain_38 rfl (lv_at hl 0 rfl) ?_
    refine va_get (D := (dC, dI)) (ci := 0) (v := .int dg) (C := RX0) (T := TX0) (N := 9) hx hb hts (by decide +kernel) hown hK hP 0 rfl rfl 6 (by decide) (hts (.fieldLink RX0 72 "DomainKeys" "domainG" "I") (by decide +kernel)) (fun _ h9 => h9) rfl dX0_domain_39 ?_
    exact W.iret (v := dg) hx hb hr (fun t ht hW => ⟨_, rfl, rfl, ht⟩) (fun q h => nomatch h) dX0_domain_42
  · refine lv_tableOut (tgt := 43) hx hb dX0_domain_1 h_sw (by decide) ?_
    refine lv_iconst (v := 0) hx hb dX0_domain_43 (by decide) ?_
    exact W.iret (v := 0) hx hb hr (fun t ht hW => ⟨_, rfl, (by rw [dk_fdom, if_neg h_sw0, if_neg h_sw1, if_neg h_sw2]), ht⟩) (fun q h => nomatch h) dX0_domain_44

set_option maxHeartbeats 4000000 in
set_option maxRecDepth 100000 in
theorem dk_c_digest (l : Launch) (h0 : Nat) (a : Int64) : Met l yX0_digest wsX0_digest ({ frames := 1, cells := 0, slots := 0, locals := 25 }) (va_Pc [.ref h0, .long a] (fun _ => True)) (vp_Si (fun r9 => r9 = nI (dk_z a))) 0 0 (fun _ => False) := by
  refine Met.ofW (cc := cX0_digest) (maxL := 3) (ret := (some .int)) (by decide) rfl ?_
  intro p e s m args below meth c s₁ B hml hv
  obtain ⟨rfl, -⟩ := hv
  have hx := B.exec
  have hb := B.bytes
  have hr := B.returns
  have hts := atoms_spec (ws := wsX0_digest) B.pre
  have hown : s.vm.findClass RX0 = some m.cls := findClass_of_methodNamed B.named
  have hlocks := B.notSynchronized
  have hl := lv_entry ([.ref h0, .long a]) (n := 3) (Nat.le_of_ble_eq_true rfl)
  rw [lg_entry_eq]
  generalize (lg_sl ([.ref h0, .long a]) ++ List.replicate (3 - (lg_sl ([.ref h0, .long a])).length) Slot.unset).toArray = ls at hl ⊢
  have hl : lv_has ls 3 [(0, .ref h0), (1, .long a)] := hl
  refine lv_lload_n hx hb dX0_digest_0 rfl (lv_at hl 1 rfl) ?_
  refine lv_ldc2 (v := 3) hx hb hown (hts (.constantLong RX0 106 3) (by decide +kernel)) dX0_digest_1 ?_
  refine vp_callSl (W.runS (As := [.long a, .long 3]) (rest := []) ⟨hx, hb, hml, hown, hts⟩ (dk_c_mix l a 3) (va_cwS 2 hts gX0_digest_X0_mix rfl rfl rfl (by decide +kernel) ⟨Nat.le_of_ble_eq_true rfl, Nat.le_of_ble_eq_true rfl⟩) ⟨fun _ _ _ _ q9 => q9, fun U hU hW => ⟨rfl, trivial⟩⟩ rfl rfl hl.1 rfl (lv_room (Nat.le_of_ble_eq_true rfl)) dX0_digest_4 ⟨Nat.le_of_ble_eq_true rfl, Nat.le_of_ble_eq_true rfl⟩) (fun r_4 hr_4 => ?_)
  subst hr_4
  refine lv_bipush (v := 49) hx hb dX0_digest_7 (by decide) ?_
  refine lv_lushr hx hb dX0_digest_9 rfl ?_
  refine lv_topl (fun v_9 ev_9 => ?_)
  have ev_9 : v_9 = lN (dk_z a) := ev_9.trans (dk_hus a 3 (k := 49) (by decide))
  subst ev_9
  refine lv_l2i hx hb dX0_digest_10 rfl ?_
  refine lv_topi (fun v_10 ev_10 => ?_)
  have ev_10 : v_10 = nI (dk_z a) := ev_10.trans (lN_i _)
  subst ev_10
  exact W.iret (v := (nI (dk_z a))) hx hb hr (fun t ht hW => ⟨_, rfl, rfl, ht⟩) (fun q h => nomatch h) dX0_digest_11

set_option maxHeartbeats 4000000 in
set_option maxRecDepth 100000 in
theorem dk_c_valid (l : Launch) (h0 : Nat) (x y : Int32) (sd : Int64) (n : Int32) : Met l yX0_valid wsX0_valid ({ frames := 3, cells := 0, slots := 0, locals := 74 }) (va_Pc [.ref h0, .int x, .int y, .long sd, .int n] (fun _ => True)) (vp_Si (fun r9 => (r9 = 1 ∧ dk_val x y sd n) ∨ (r9 = 0 ∧ ¬ dk_val x y sd n))) 0 0 (fun _ => False) := by
  refine Met.ofW (cc := cX0_valid) (maxL := 6) (ret := (some .boolean)) (by decide) rfl ?_
  intro p e s m args below meth c s₁ B hml hv
  obtain ⟨rfl, -⟩ := hv
  have hx := B.exec
  have hb := B.bytes
  have hr := B.returns
  have hts := atoms_spec (ws := wsX0_valid) B.pre
  have hown : s.vm.findClass RX0 = some m.cls := findClass_of_methodNamed B.named
  have hlocks := B.notSynchronized
  have hl := lv_entry ([.ref h0, .int x, .int y, .long sd, .int n]) (n := 6) (Nat.le_of_ble_eq_true rfl)
  rw [lg_entry_eq]
  generalize (lg_sl ([.ref h0, .int x, .int y, .long sd, .int n]) ++ List.replicate (6 - (lg_sl ([.ref h0, .int x, .int y, .long sd, .int n])).length) Slot.unset).toArray = ls at hl ⊢
  have hl : lv_has ls 6 [(0, .ref h0), (1, .int x), (2, .int y), (3, .long sd), (5, .int n)] := hl
  refine lv_iload hx hb dX0_valid_0 (lv_at hl 4 rfl) ?_
  refine lv_if_lt (tgt := 37) hx hb dX0_valid_2 (by decide) (fun c_2 => ?_) (fun c_2 => ?_)
  · have hno : ¬ dk_val x y sd n := fun ⟨d0, d, d1, d2, d3, d4, d5, d6⟩ => by
      rw [d4] at c_2
      exact nI_pos (by omega) c_2
    refine lv_iconst (v := 0) hx hb dX0_valid_37 (by decide) ?_
    exact W.zret (v := 0) (ty := .boolean) hx hb hr rfl (fun t ht hW => ⟨_, rfl, Or.inr ⟨rfl, hno⟩, ht⟩) (fun q h => nomatch h) dX0_valid_38
  · refine lv_iload_n hx hb dX0_valid_5 rfl (lv_at hl 2 rfl) ?_
    refine lv_lload_n hx hb dX0_valid_6 rfl (lv_at hl 3 rfl) ?_
    refine vp_callSi (W.runS (As := [.long sd]) (rest := [.int y]) ⟨hx, hb, hml, hown, hts⟩ (dk_c_orderFrom l sd) (va_cwS 1 hts gX0_valid_X0_orderFrom rfl rfl rfl (by decide +kernel) ⟨Nat.le_of_ble_eq_true rfl, Nat.le_of_ble_eq_true rfl⟩) ⟨fun _ _ _ _ q9 => q9, fun U hU hW => ⟨rfl, trivial⟩⟩ rfl rfl hl.1 rfl (lv_room (Nat.le_of_ble_eq_true rfl)) dX0_valid_7 ⟨Nat.le_of_ble_eq_true rfl, Nat.le_of_ble_eq_true rfl⟩) (fun r_7 hr_7 => ?_)
    subst hr_7
    refine lv_icmp_ne (tgt := 37) hx hb dX0_valid_10 (by decide) (fun c_10 => ?_) (fun c_10 => ?_)
    · have hno : ¬ dk_val x y sd n := fun ⟨d0, d, d1, d2, d3, d4, d5, d6⟩ => by
        exact c_10 d5
      refine lv_iconst (v := 0) hx hb dX0_valid_37 (by decide) ?_
      exact W.zret (v := 0) (ty := .boolean) hx hb hr rfl (fun t ht hW => ⟨_, rfl, Or.inr ⟨rfl, hno⟩, ht⟩) (fun q h => nomatch h) dX0_valid_38
    · refine lv_iload hx hb dX0_valid_13 (lv_at hl 4 rfl) ?_
      refine lv_lload_n hx hb dX0_valid_15 rfl (lv_at hl 3 rfl) ?_
      refine vp_callSi (W.runS (As := [.long sd]) (rest := [.int n]) ⟨hx, hb, hml, hown, hts⟩ (dk_c_counterFrom l sd) (va_cwS 1 hts gX0_valid_X0_counterFrom rfl rfl rfl (by decide +kernel) ⟨Nat.le_of_ble_eq_true rfl, Nat.le_of_ble_eq_true rfl⟩) ⟨fun _ _ _ _ q9 => q9, fun U hU hW => ⟨rfl, trivial⟩⟩ rfl rfl hl.1 rfl (lv_room (Nat.le_of_ble_eq_true rfl)) dX0_valid_16 ⟨Nat.le_of_ble_eq_true rfl, Nat.le_of_ble_eq_true rfl⟩) (fun r_16 hr_16 => ?_)
      refine lv_icmp_ne (tgt := 37) hx hb dX0_valid_19 (by decide) (fun c_19 => ?_) (fun c_19 => ?_)
      · have hno : ¬ dk_val x y sd n := fun ⟨d0, d, d1, d2, d3, d4, d5, d6⟩ => by
          exact c_19 (dk_Mk_one (Or.inr (Or.inl ⟨d0, d, d1, d2, d3, d4⟩)) hr_16)
        refine lv_iconst (v := 0) hx hb dX0_valid_37 (by decide) ?_
        exact W.zret (v := 0) (ty := .boolean) hx hb hr rfl (fun t ht hW => ⟨_, rfl, Or.inr ⟨rfl, hno⟩, ht⟩) (fun q h => nomatch h) dX0_valid_38
      · subst c_10
        obtain ⟨c9, hc1, hc2, hc3, hq1, rfl⟩ : ∃ c9 : Nat, c9 < 64 ∧ dk_ok sd c9 ∧ (∀ j, j < c9 → ¬ dk_ok sd j) ∧ dk_pr (dk_q sd) ∧ n = nI c9 := by
          rw [← c_19] at hr_16
          rcases hr_16 with ⟨-, q⟩ | ⟨q1, c9, q2, q3, q4, q⟩ | ⟨-, -, q⟩
          · exact absurd (by rw [q]; decide) c_2
          · exact ⟨c9, q2, q3, q4, q1, q⟩
          · exact absurd (by rw [q]; decide) c_2
        refine lv_iload_n hx hb dX0_valid_22 rfl (lv_at hl 1 rfl) ?_
        refine lv_lload_n hx hb dX0_valid_23 rfl (lv_at hl 3 rfl) ?_
        refine lv_iload_n hx hb dX0_valid_24 rfl (lv_at hl 2 rfl) ?_
        refine lv_iload hx hb dX0_valid_25 (lv_at hl 4 rfl) ?_
        refine vp_callSi (W.runS (As := [.long sd, .int (nI (dk_q sd)), .int (nI c9)]) (rest := [.int x]) ⟨hx, hb, hml, hown, hts⟩ (dk_c_fieldTry l sd c9 hc1) (va_cwS 3 hts gX0_valid_X0_fieldTry rfl rfl rfl (by decide +kernel) ⟨Nat.le_of_ble_eq_true rfl, Nat.le_of_ble_eq_true rfl⟩) ⟨fun _ _ _ _ q9 => q9, fun U hU hW => ⟨rfl, trivial⟩⟩ rfl rfl hl.1 rfl (lv_room (Nat.le_of_ble_eq_true rfl)) dX0_valid_27 ⟨Nat.le_of_ble_eq_true rfl, Nat.le_of_ble_eq_true rfl⟩) (fun r_27 hr_27 => ?_)
        subst hr_27
        refine lv_icmp_ne (tgt := 37) hx hb dX0_valid_30 (by decide) (fun c_30 => ?_) (fun c_30 => ?_)
        · have hno : ¬ dk_val x (nI (dk_q sd)) sd (nI c9) := fun ⟨d0, d, d1, d2, d3, d4, d5, d6⟩ => by
            have q1 : c9 = d := (nI_eq (by omega) (by omega)).mp d4
            subst q1
            exact c_30 d6
          refine lv_iconst (v := 0) hx hb dX0_valid_37 (by decide) ?_
          exact W.zret (v := 0) (ty := .boolean) hx hb hr rfl (fun t ht hW => ⟨_, rfl, Or.inr ⟨rfl, hno⟩, ht⟩) (fun q h => nomatch h) dX0_valid_38
        · have hyes : dk_val x (nI (dk_q sd)) sd (nI c9) := ⟨hq1, c9, hc1, hc2, hc3, rfl, rfl, c_30⟩
          refine lv_iconst (v := 1) hx hb dX0_valid_33 (by decide) ?_
          refine lv_goto (tgt := 38) hx hb dX0_valid_34 (by decide) ?_
          exact W.zret (v := 1) (ty := .boolean) hx hb hr rfl (fun t ht hW => ⟨_, rfl, Or.inl ⟨rfl, hyes⟩, ht⟩) (fun q h => nomatch h) dX0_valid_38
