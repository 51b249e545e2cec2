set_option maxHeartbeats 4000000 in
set_option maxRecDepth 100000 in
theorem dk_loop {p : Program} {l : Launch} {e : Env} {s : State} {m : MethodId} {below : List Frame} {meth : Method} {c : Code} {dC : Nat → ClassId} {dI : Nat → Nat → Nat} {b L : Nat} {xs : Nat → Int32} {h0 h1 h2 : Nat} {a1 a2 : ClassId} {k0 k1 : Nat} {b1 : ClassId} {ho : Nat} {ao : ClassId} (hl9 : l.stackTraces = false) (hL : L ≤ 3072) (C0 : lw_At p s m meth c b L xs) (hK : va_K (dC, dI) vwCl [(ao, .long), (a1, .int), (a2, .int), (b1, .int)] s) (hE : dk_E (fun q : Nat => s.heap.size ≤ q) s s.heap) : ∀ (n t9 : Nat), 513 ≤ t9 + n → 6 * t9 ≤ L → dk_KK p l e s m below meth c dC dI b h0 h1 h2 a1 a2 k0 k1 b1 ho ao t9 (6 + 2 * t9) (60 + 12 * t9) 23 := by
  obtain ⟨hx, hb, hr, hml, hown0, hts0, hX, hbl, hlocks, hgv⟩ := id C0
  have hts := fun (w : Cond) (h : w ∈ wsL_law) => hts0 w (wsL_law_in w h)
  have hown : s.vm.findClass RL = some m.cls := hown0
  have hA : ∀ q : Nat, s.heap.size ≤ q → (fun q : Nat => s.heap.size ≤ q) q := fun _ h => h
  have hbA : ¬ (fun q : Nat => s.heap.size ≤ q) b := Nat.not_le.mpr hbl
  intro n
  induction n with
  | zero =>
    intro t9 q1 q2
    exact absurd q1 (by omega)
  | succ n ih =>
    intro t9 hn hi kc ks cp cq cs cn dp dq dg se pu mp mq mo hc ms9 kp kq kn th ou H locs ls hkc hks hR hP hD hS hl
    refine lv_iload hx hb dL_law_23 (lv_at hl 4 rfl) ?_
    refine lv_aload_n hx hb dL_law_25 rfl (lv_at hl 0 rfl) ?_
    refine va_slen hx hb hX hbl hbA hS dL_law_26 ?_
    refine lv_bipush (v := 6) hx hb dL_law_27 (by decide) ?_
    refine lv_isub hx hb dL_law_29 ?_
    refine lv_icmp_gt (tgt := 1025) hx hb dL_law_30 (by decide) (fun c_30 => ?_) (fun c_30 => ?_)
    · refine lv_iconst (v := 1) hx hb dL_law_1025 (by decide) ?_
      refine va_forget (fun q hq => hS.2.2 q hq) ?_
      refine W.widen (k := 1041) (n := 8305) (by omega) (by omega) ?_
      exact lw_ret hx hb hr hlocks dL_law_1026
    have ht9 : 6 * t9 + 6 ≤ L := by
      rcases Nat.lt_or_ge L (6 * t9 + 6) with q | q
      · refine absurd ?_ c_30
        show nI L - nI 6 < nI (6 * t9)
        rw [Int32.lt_iff_toInt_lt, pk_sub_toInt (by omega) (by omega), nI_toInt (by omega)]
        omega
      · exact q
    have hcb : 6 + 2 * t9 + 2 ≤ 1041 := by omega
    have hsb : 60 + 12 * t9 + 12 ≤ 8305 := by omega
    have kk : dk_KK p l e s m below meth c dC dI b h0 h1 h2 a1 a2 k0 k1 b1 ho ao t9 (6 + 2 * t9 + 2) (60 + 12 * t9 + 12) 1019 := by
      intro kc ks cp cq cs cn dp dq dg se pu mp mq mo hc ms9 kp kq kn th ou H locs ls hkc hks hR hP hD hS hl
      refine lv_iinc (v := nI (6 * (t9 + 1))) (lv' := [(4, .int (nI (6 * (t9 + 1)))), (0, .ref b), (1, .ref h0), (2, .ref k0), (3, .ref ho)]) hx hb dL_law_1019 hl (k := 4) rfl (nI_add (6 * t9) 6) (by decide) rfl (fun ls hl => ?_)
      refine lv_goto (tgt := 23) hx hb dL_law_1022 (by decide) ?_
      exact ih (t9 + 1) (by omega) (by omega) kc ks cp cq cs cn dp dq dg se pu mp mq mo hc ms9 kp kq kn th ou H locs ls (by omega) (by omega) hR hP hD hS (lv_sub hl [1, 2, 3, 4, 0] rfl)
    refine lv_aload_n hx hb dL_law_33 rfl (lv_at hl 0 rfl) ?_
    refine lv_iload hx hb dL_law_34 (lv_at hl 4 rfl) ?_
    refine va_sld hx hb hX hbl hbA hS (vp_in_nI (n := 6 * t9) (by omega) (by omega)) dL_law_36 ?_
    refine lv_bipush (v := 15) hx hb dL_law_37 (by decide) ?_
    refine lv_iand hx hb dL_law_39 ?_
    obtain ⟨j, hj, ej⟩ := pk_andE (xs (nI (6 * t9)).toNatClampNeg) (m := 15) 4 (by decide)
    refine lv_topi (fun v ev => ?_)
    have ev : v = nI j := ev.trans ej
    subst ev
    rcases (show j = 0 ∨ j = 1 ∨ j = 2 ∨ j = 3 ∨ j = 4 ∨ j = 5 ∨ j = 6 ∨ j = 7 ∨ j = 8 ∨ j = 9 ∨ j = 10 ∨ j = 11 ∨ j = 12 ∨ j = 13 ∨ j = 14 ∨ j = 15 by omega) with rfl | rfl | rfl | rfl | rfl | rfl | rfl | rfl | rfl | rfl | rfl | rfl | rfl | rfl | rfl | rfl
    · refine lv_tableIn (off := 72) (tgt := 112) hx hb dL_law_40 (by decide) (by decide) (by decide) (by decide) ?_
      exact dk_case0 hl9 hL C0 hK hE ht9 hcb hsb kk kc ks cp cq cs cn dp dq dg se pu mp mq mo hc ms9 kp kq kn th ou H locs ls hkc hks hR hP hD hS hl
    · refine lv_tableIn (off := 129) (tgt := 169) hx hb dL_law_40 (by decide) (by decide) (by decide) (by decide) ?_
      exact dk_case1 hl9 hL C0 hK hE ht9 hcb hsb kk kc ks cp cq cs cn dp dq dg se pu mp mq mo hc ms9 kp kq kn th ou H locs ls hkc hks hR hP hD hS hl
    · refine lv_tableIn (off := 155) (tgt := 195) hx hb dL_law_40 (by decide) (by decide) (by decide) (by decide) ?_
      exact dk_case2 hl9 hL C0 hK hE ht9 hcb hsb kk kc ks cp cq cs cn dp dq dg se pu mp mq mo hc ms9 kp kq kn th ou H locs ls hkc hks hR hP hD hS hl
    · refine lv_tableIn (off := 211) (tgt := 251) hx hb dL_law_40 (by decide) (by decide) (by decide) (by decide) ?_
      exact dk_case3 hl9 hL C0 hK hE ht9 hcb hsb kk kc ks cp cq cs cn dp dq dg se pu mp mq mo hc ms9 kp kq kn th ou H locs ls hkc hks hR hP hD hS hl
    · refine lv_tableIn (off := 304) (tgt := 344) hx hb dL_law_40 (by decide) (by decide) (by decide) (by decide) ?_
      exact dk_case4 hl9 hL C0 hK hE ht9 hcb hsb kk kc ks cp cq cs cn dp dq dg se pu mp mq mo hc ms9 kp kq kn th ou H locs ls hkc hks hR hP hD hS hl
    · refine lv_tableIn (off := 364) (tgt := 404) hx hb dL_law_40 (by decide) (by decide) (by decide) (by decide) ?_
      exact dk_case5 hl9 hL C0 hK hE ht9 hcb hsb kk kc ks cp cq cs cn dp dq dg se pu mp mq mo hc ms9 kp kq kn th ou H locs ls hkc hks hR hP hD hS hl
    · refine lv_tableIn (off := 389) (tgt := 429) hx hb dL_law_40 (by decide) (by decide) (by decide) (by decide) ?_
      exact dk_case6 hl9 hL C0 hK hE ht9 hcb hsb kk kc ks cp cq cs cn dp dq dg se pu mp mq mo hc ms9 kp kq kn th ou H locs ls hkc hks hR hP hD hS hl
    · refine lv_tableIn (off := 457) (tgt := 497) hx hb dL_law_40 (by decide) (by decide) (by decide) (by decide) ?_
      exact dk_case7 hl9 hL C0 hK hE ht9 hcb hsb kk kc ks cp cq cs cn dp dq dg se pu mp mq mo hc ms9 kp kq kn th ou H locs ls hkc hks hR hP hD hS hl
    · refine lv_tableIn (off := 513) (tgt := 553) hx hb dL_law_40 (by decide) (by decide) (by decide) (by decide) ?_
      exact dk_case8 hl9 hL C0 hK hE ht9 hcb hsb kk kc ks cp cq cs cn dp dq dg se pu mp mq mo hc ms9 kp kq kn th ou H locs ls hkc hks hR hP hD hS hl
    · refine lv_tableIn (off := 549) (tgt := 589) hx hb dL_law_40 (by decide) (by decide) (by decide) (by decide) ?_
      exact dk_case9 hl9 hL C0 hK hE ht9 hcb hsb kk kc ks cp cq cs cn dp dq dg se pu mp mq mo hc ms9 kp kq kn th ou H locs ls hkc hks hR hP hD hS hl
    · refine lv_tableIn (off := 612) (tgt := 652) hx hb dL_law_40 (by decide) (by decide) (by decide) (by decide) ?_
      exact dk_case10 hl9 hL C0 hK hE ht9 hcb hsb kk kc ks cp cq cs cn dp dq dg se pu mp mq mo hc ms9 kp kq kn th ou H locs ls hkc hks hR hP hD hS hl
    · refine lv_tableIn (off := 669) (tgt := 709) hx hb dL_law_40 (by decide) (by decide) (by decide) (by decide) ?_
      exact dk_case11 hl9 hL C0 hK hE ht9 hcb hsb kk kc ks cp cq cs cn dp dq dg se pu mp mq mo hc ms9 kp kq kn th ou H locs ls hkc hks hR hP hD hS hl
    · refine lv_tableIn (off := 780) (tgt := 820) hx hb dL_law_40 (by decide) (by decide) (by decide) (by decide) ?_
      exact dk_case12 hl9 hL C0 hK hE ht9 hcb hsb kk kc ks cp cq cs cn dp dq dg se pu mp mq mo hc ms9 kp kq kn th ou H locs ls hkc hks hR hP hD hS hl
    · refine lv_tableIn (off := 911) (tgt := 951) hx hb dL_law_40 (by decide) (by decide) (by decide) (by decide) ?_
      exact dk_case13 hl9 hL C0 hK hE ht9 hcb hsb kk kc ks cp cq cs cn dp dq dg se pu mp mq mo hc ms9 kp kq kn th ou H locs ls hkc hks hR hP hD hS hl
    · refine lv_tableOut (tgt := 1019) hx hb dL_law_40 (by decide) (by decide) ?_
      exact kk kc ks cp cq cs cn dp dq dg se pu mp mq mo hc ms9 kp kq kn th ou H locs ls (by omega) (by omega) hR hP hD hS hl
    · refine lv_tableOut (tgt := 1019) hx hb dL_law_40 (by decide) (by decide) ?_
      exact kk kc ks cp cq cs cn dp dq dg se pu mp mq mo hc ms9 kp kq kn th ou H locs ls (by omega) (by omega) hR hP hD hS hl
