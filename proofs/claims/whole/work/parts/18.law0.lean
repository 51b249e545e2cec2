/-! THE CLAIM OUT OF ONE WALK OF THE LAW'S BODY. Your part is whole_start (and what it stands on); all else here is the same for every law, but numbers. -/
def R_law : String := "DomainKeysLaw"
def lw_P (b : Addr) (xs : List Int32) (args : Array Value) (s : State) : Prop := args = #[.ref b] ∧ s.IntsAt b xs ∧ xs.length ≤ 3072 ∧ (Jvm.Cond.and given_1 narrow_1).before args s = true
def lw_Q (_ : Array Value) (s : State) (o : Outcome) (t : State) : Prop := o = .returned (some (.int 1)) ∧ Framed s o t [] 1041 8305
def lw_Z (below : List Frame) (a : Array Value) (s : State) : State → Prop := fun t => ∃ o, t.status = .running ∧ Ended t below o ∧ lw_Q a s o t
/-- the law's own end, with 1 on the stack, nothing written that was there before, its room as the claim has it -/
theorem lw_ret {p : Program} {l : Launch} {e : Env} {s : State} {m : MethodId} {below : List Frame} {meth : Method} {c : Code} {b : Nat} (hx : p.tables.exec = Jvm.exec) (hb : c.code = code) (hr : meth.sig.returnType = ret) (hlocks : meth.locks = false) {pc : Nat} {H : Heap} {ls : Array Slot} (hdg : decode code pc = .ok (.ireturn, 1)) : W p l e room_1 s m #[Value.ref b] below meth c H [] 1041 8305 (lw_Z below #[Value.ref b] s) (F0 m pc ls [.int 1]) := by
  intro T hT X
  obtain ⟨fs, hret, hrun, hended, hW, hframe⟩ := X.leave (v := some (.int 1)) (hlocks := hlocks) (fun h => by rw [hr] at h; cases h)
  have hmeth' : T.vm.method? m = some meth := X.method'
  refine ⟨T.setFrames fs, ?_, .returned (some (.int 1)), hrun, hended, rfl, ⟨_, rfl⟩, hW, hframe⟩
  jvm_step X.here [X.here.top, hx, hb, hdg, hmeth', hr, ret, narrow_b1]
  (try refine ⟨rfl, ?_⟩); (try refine ⟨rfl, ?_⟩)
  first | (intro acts; rw [hret _ acts rfl rfl rfl]) | rw [hret _ _ rfl rfl rfl]
  exact Steps.refl _
/-- what holds at the law's entry: the machine, the code, the tables' words (any of lw_tbl by 'hts w (by decide +kernel)'), the script of L ints xs at the cell b, what the Statement gives of the start (any of its parts by flat_of_before) -/
def lw_At (p : Program) (s : State) (m : MethodId) (meth : Method) (c : Code) (b L : Nat) (xs : Nat → Int32) : Prop :=
  p.tables.exec = Jvm.exec ∧ c.code = code ∧ meth.sig.returnType = ret ∧ c.maxLocals = 8 ∧ s.vm.findClass R_law = some m.cls ∧ (∀ w ∈ lw_tbl, w.before #[Value.ref b] s = true) ∧ va_X b L xs s s.heap ∧ b < s.heap.size ∧ meth.locks = false ∧ (Jvm.Cond.and given_1 narrow_1).before #[Value.ref b] s = true
/-! the two states belong together -/
def dk_lg (a b : Int32) : Int64 := (a.toInt64 <<< ((32 : Int32).toInt64 &&& 63)) ||| (b.toInt64 &&& 4294967295)
def dk_R (cp cq : Int32) (cs : Int64) (cn dp dq dg : Int32) (se pu : Nat → Int32) (hc : Int32) (ms9 : Int64) (kp kq kn : Int32) : Prop :=
  dk_IC cp cq cs cn ∧ dk_ID dp dq dg ∧ dk_IK dp dq dg se pu ∧ ((hc = 0 ∧ cp = 0 ∧ cq = 0 ∧ cs = 0 ∧ cn = 0) ∨ (¬ hc = 0 ∧ ¬ cp = 0 ∧ ms9 = cs ∧ kp = cp ∧ kq = cq ∧ kn = cn))
section DKR
variable {cp cq : Int32} {cs : Int64} {cn dp dq dg : Int32} {se pu : Nat → Int32} {hc : Int32} {ms9 : Int64} {kp kq kn : Int32}
theorem dk_R.cand (h : dk_R cp cq cs cn dp dq dg se pu hc ms9 kp kq kn) (x : Int32) : (if hc = 0 then 0 else dk_fcand kp kq ms9 kn x) = dk_fcand cp cq cs cn x := by
  rcases h.2.2.2 with ⟨h0, h1, h2, h3, h4⟩ | ⟨h0, h1, h2, h3, h4, h5⟩
  · rw [if_pos h0, h1, h2, h3, h4]
    unfold dk_fcand
    by_cases a0 : x = 0
    · rw [if_pos a0]; rfl
    by_cases a1 : x = 1
    · rw [if_neg a0, if_pos a1]; rfl
    by_cases a2 : x = 2
    · rw [if_neg a0, if_neg a1, if_pos a2]
    by_cases a3 : x = 3
    · rw [if_neg a0, if_neg a1, if_neg a2, if_pos a3]; rfl
    · rw [if_neg a0, if_neg a1, if_neg a2, if_neg a3]
  · rw [if_neg h0, h2, h3, h4, h5]
theorem dk_R.gI (h : dk_R cp cq cs cn dp dq dg se pu hc ms9 kp kq kn) : hc = 0 ∨ ∃ c : Nat, c < 64 ∧ dk_ok ms9 c ∧ dk_pr (dk_q ms9) ∧ kp = nI (dk_try ms9 c) ∧ kq = nI (dk_q ms9) := by
  rcases h.2.2.2 with ⟨h0, -⟩ | ⟨h0, h1, h2, h3, h4, h5⟩
  · exact Or.inl h0
  · rcases h.1 with ⟨q, -⟩ | ⟨c, q1, q2, q3, q4, q5, q6⟩
    · exact absurd q h1
    · rw [h2, h3, h4]
      exact Or.inr ⟨c, q1, q2, q3, q4, q5⟩
theorem dk_R.km (h : dk_R cp cq cs cn dp dq dg se pu hc ms9 kp kq kn) : ∀ j, j < 8 → se j = 0 ∨ (¬ dp = 0 ∧ dk_ex (se j) dq) := fun j hj => (h.2.2.1 j hj).imp id (fun q => ⟨q.1, q.2.1⟩)
def dk_G1 (sd : Int64) (r cp cq : Int32) (cs : Int64) (cn cp2 cq2 : Int32) (cs2 : Int64) (cn2 : Int32) : Prop :=
  (r < 0 ∧ cp2 = cp ∧ cq2 = cq ∧ cs2 = cs ∧ cn2 = cn) ∨ ∃ n9 : Nat, n9 < 64 ∧ dk_ok sd n9 ∧ dk_pr (dk_q sd) ∧ r = nI n9 ∧ cp2 = nI (dk_try sd n9) ∧ cq2 = nI (dk_q sd) ∧ cs2 = sd ∧ cn2 = nI n9
def dk_G2 (sd : Int64) (r hc : Int32) (ms9 : Int64) (kp kq kn hc2 : Int32) (ms2 : Int64) (kp2 kq2 kn2 : Int32) : Prop :=
  (r < 0 ∧ hc2 = hc ∧ ms2 = ms9 ∧ kp2 = kp ∧ kq2 = kq ∧ kn2 = kn) ∨ ∃ n9 : Nat, n9 < 64 ∧ r = nI n9 ∧ hc2 = 1 ∧ ms2 = sd ∧ kp2 = nI (dk_try sd n9) ∧ kq2 = nI (dk_q sd) ∧ kn2 = nI n9
theorem dk_R.gen (h : dk_R cp cq cs cn dp dq dg se pu hc ms9 kp kq kn) {sd : Int64} {r r' cp2 cq2 : Int32} {cs2 : Int64} {cn2 hc2 : Int32} {ms2 : Int64} {kp2 kq2 kn2 : Int32} (hr : r = r') (g1 : dk_G1 sd r cp cq cs cn cp2 cq2 cs2 cn2) (g2 : dk_G2 sd r' hc ms9 kp kq kn hc2 ms2 kp2 kq2 kn2) : dk_R cp2 cq2 cs2 cn2 dp dq dg se pu hc2 ms2 kp2 kq2 kn2 := by
  subst hr
  rcases g1 with ⟨q, rfl, rfl, rfl, rfl⟩ | ⟨n9, q1, q2, q3, q4, rfl, rfl, rfl, rfl⟩
  · rcases g2 with ⟨-, rfl, rfl, rfl, rfl, rfl⟩ | ⟨n9, w1, w2, -⟩
    · exact h
    · rw [w2] at q
      exact absurd q (nI_pos (by omega))
  · rcases g2 with ⟨q, -⟩ | ⟨n8, w1, w2, rfl, rfl, rfl, rfl, rfl⟩
    · rw [q4] at q
      exact absurd q (nI_pos (by omega))
    · have e : n9 = n8 := (nI_eq (by omega) (by omega)).mp (q4.symm.trans w2)
      subst e
      have ht := dk_try_in ms2 n9
      exact ⟨Or.inr ⟨n9, q1, q2, q3, rfl, rfl, rfl⟩, h.2.1, h.2.2.1, Or.inr ⟨by decide, fun q => by
        have := (nI_eq (b := 0) (by omega) (by omega)).mp q
        omega, rfl, rfl, rfl, rfl⟩⟩
def dk_gO (cp cq : Int32) (cs : Int64) (x r : Int32) (ou : Nat → Int64) : Prop :=
  (r = 1 ∧ cp = 0) ∨ (r = 2 ∧ ¬ cp = 0 ∧ ¬ (0 ≤ x ∧ x < 256)) ∨ (r = 0 ∧ ¬ cp = 0 ∧ ∃ ix : Nat, ix < 256 ∧ x = nI ix ∧ ∃ v : Int32, dk_Gn cs ix (dk_n cp) (dk_n cq) v ∧ ou 0 = v.toInt64)
def dk_gM (hc kp kq : Int32) (ms9 : Int64) (x th r : Int32) : Prop :=
  (th = 1 ∧ hc = 0) ∨ (th = 2 ∧ ¬ hc = 0 ∧ ¬ (0 ≤ x ∧ x < 256)) ∨ (th = 0 ∧ ¬ hc = 0 ∧ ∃ ix : Nat, ix < 256 ∧ x = nI ix ∧ dk_Gn ms9 ix (dk_n kp) (dk_n kq) r)
theorem dk_R.gtor (h : dk_R cp cq cs cn dp dq dg se pu hc ms9 kp kq kn) {x r r' th : Int32} {ou : Nat → Int64} (g1 : dk_gO cp cq cs x r ou) (g2 : dk_gM hc kp kq ms9 x th r') : th = r ∧ (r = 0 → ou 0 = r'.toInt64) := by
  have hz : hc = 0 ↔ cp = 0 := by
    rcases h.2.2.2 with ⟨h0, h1, -⟩ | ⟨h0, h1, -⟩
    · exact ⟨fun _ => h1, fun _ => h0⟩
    · exact ⟨fun q => absurd q h0, fun q => absurd q h1⟩
  have hin : ∀ ix : Nat, ix < 256 → x = nI ix → 0 ≤ x ∧ x < 256 := fun ix h1 h2 => by
    rw [h2]
    exact ⟨nI_pos' (by omega), nI_lt (b := 256) h1 (by decide)⟩
  rcases g1 with ⟨a1, a2⟩ | ⟨a1, a2, a3⟩ | ⟨a1, a2, ix, a3, a4, v, a5, a6⟩
  · rcases g2 with ⟨b1, b2⟩ | ⟨b1, b2, b3⟩ | ⟨b1, b2, iy, b3, b4, b5⟩
    · exact ⟨b1.trans a1.symm, fun q => absurd (a1.symm.trans q) (by decide)⟩
    · exact absurd (hz.mpr a2) b2
    · exact absurd (hz.mpr a2) b2
  · rcases g2 with ⟨b1, b2⟩ | ⟨b1, b2, b3⟩ | ⟨b1, b2, iy, b3, b4, b5⟩
    · exact absurd (hz.mp b2) a2
    · exact ⟨b1.trans a1.symm, fun q => absurd (a1.symm.trans q) (by decide)⟩
    · exact absurd (hin iy b3 b4) a3
  · rcases g2 with ⟨b1, b2⟩ | ⟨b1, b2, b3⟩ | ⟨b1, b2, iy, b3, b4, b5⟩
    · exact absurd (hz.mp b2) a2
    · exact absurd (hin ix a3 a4) b3
    · refine ⟨b1.trans a1.symm, fun _ => ?_⟩
      have e : ix = iy := (nI_eq (by omega) (by omega)).mp (a4.symm.trans b4)
      subst e
      rcases h.2.2.2 with ⟨h0, -⟩ | ⟨h0, h1, h2, h3, h4, h5⟩
      · exact absurd h0 b2
      · rw [h2, h3, h4] at b5
        rw [a6, dk_Gn_one a5 b5]
theorem dk_R.adopt (h : dk_R cp cq cs cn dp dq dg se pu hc ms9 kp kq kn) {x y z : Int32} (hd : dk_domI x y z) : dk_R cp cq cs cn x y z (dk_clr 8 se) (dk_clr 8 pu) hc ms9 kp kq kn := by
  obtain ⟨P, Q, G, h1, h2, h3, h4, h5, h6⟩ := hd
  exact ⟨h.1, Or.inr ⟨P, Q, G, h1, h2, h6, h3, h4, h5⟩, fun j hj => Or.inl (if_pos hj), h.2.2.2⟩
theorem dk_R.key (h : dk_R cp cq cs cn dp dq dg se pu hc ms9 kp kq kn) {x y r v : Int32} {se2 pu2 : Nat → Int32} (hf : dk_fkey dp dq dg x y = (r, v)) (hw : (r = 0 ∧ se2 = upd se (dk_n x) y ∧ pu2 = upd pu (dk_n x) v) ∨ (¬ r = 0 ∧ se2 = se ∧ pu2 = pu)) : dk_R cp cq cs cn dp dq dg se2 pu2 hc ms9 kp kq kn := by
  rcases hw with ⟨rfl, rfl, rfl⟩ | ⟨-, rfl, rfl⟩
  · refine ⟨h.1, h.2.1, fun j hj => ?_, h.2.2.2⟩
    unfold dk_fkey at hf
    by_cases p0 : dp = 0
    · rw [if_pos p0] at hf
      exact absurd (show (1 : Int32) = 0 from congrArg Prod.fst hf) (by decide)
    by_cases p1 : dk_sl x
    · by_cases p2 : dk_ex y dq
      · rw [if_neg p0, if_neg (fun q => q p1), if_neg (fun q => q p2)] at hf
        have hv : dk_pw dg y dp = v := congrArg Prod.snd hf
        unfold upd
        by_cases e : j = dk_n x
        · rw [if_pos e, if_pos e]
          exact Or.inr ⟨p0, p2, hv.symm⟩
        · rw [if_neg e, if_neg e]
          exact h.2.2.1 j hj
      · rw [if_neg p0, if_neg (fun q => q p1), if_pos p2] at hf
        exact absurd (show (3 : Int32) = 0 from congrArg Prod.fst hf) (by decide)
    · rw [if_neg p0, if_pos p1] at hf
      exact absurd (show (2 : Int32) = 0 from congrArg Prod.fst hf) (by decide)
  · exact h
theorem dk_R.forget (h : dk_R cp cq cs cn dp dq dg se pu hc ms9 kp kq kn) (n : Nat) : dk_R cp cq cs cn dp dq dg (upd se n 0) (upd pu n 0) hc ms9 kp kq kn := by
  refine ⟨h.1, h.2.1, fun j hj => ?_, h.2.2.2⟩
  unfold upd
  by_cases e : j = n
  · rw [if_pos e, if_pos e]
    exact Or.inl rfl
  · rw [if_neg e, if_neg e]
    exact h.2.2.1 j hj
end DKR
/-- the law at the place pc of its turn t9, with any state that belongs together -/
abbrev dk_KK (p : Program) (l : Launch) (e : Env) (s : State) (m : MethodId) (below : List Frame) (meth : Method) (c : Code) (dC : Nat → ClassId) (dI : Nat → Nat → Nat) (b : Nat) (h0 h1 h2 : Nat) (a1 a2 : ClassId) (k0 k1 : Nat) (b1 : ClassId) (ho : Nat) (ao : ClassId) (t9 cb sb pc : Nat) : Prop :=
  ∀ (kc ks : Nat) (cp cq : Int32) (cs : Int64) (cn dp dq dg : Int32) (se pu : Nat → Int32) (mp mq mo hc : Int32) (ms9 : Int64) (kp kq kn th : Int32) (ou : Nat → Int64) (H : Heap) (locs : List Loc) (ls : Array Slot), kc ≤ cb → ks ≤ sb → dk_R cp cq cs cn dp dq dg se pu hc ms9 kp kq kn → va_P (dC, dI) vwCl [(ho, .inl (ao, 1, .inr (.inl ou))), (h0, .inr (0, [.int cp, .int cq, .long cs, .int cn, .int dp, .int dq, .int dg, .ref h1, .ref h2])), (h1, .inl (a1, 8, .inl se)), (h2, .inl (a2, 8, .inl pu)), (k0, .inr (1, [.int mp, .int mq, .int mo, .int hc, .long ms9, .int kp, .int kq, .int kn, .int dp, .int dq, .int dg, .ref k1, .int th])), (k1, .inl (b1, 8, .inl se))] H → va_D (fun q : Nat => s.heap.size ≤ q) [(ho, .inl (ao, 1, .inr (.inl ou))), (h0, .inr (0, [.int cp, .int cq, .long cs, .int cn, .int dp, .int dq, .int dg, .ref h1, .ref h2])), (h1, .inl (a1, 8, .inl se)), (h2, .inl (a2, 8, .inl pu)), (k0, .inr (1, [.int mp, .int mq, .int mo, .int hc, .long ms9, .int kp, .int kq, .int kn, .int dp, .int dq, .int dg, .ref k1, .int th])), (k1, .inl (b1, 8, .inl se))] → va_S (fun q : Nat => s.heap.size ≤ q) s.heap H locs → lv_has ls 8 [(0, .ref b), (1, .ref h0), (2, .ref k0), (3, .ref ho), (4, .int (nI (6 * t9)))] → W p l e room_1 s m #[Value.ref b] below meth c H locs kc ks (lw_Z below #[Value.ref b] s) (F0 m pc ls [])
