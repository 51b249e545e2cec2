/-! what exceptions need of the tables and of the heap -/
def dk_exs : List String := ["java/lang/IllegalStateException", "java/lang/IllegalArgumentException", "java/lang/IndexOutOfBoundsException", "java/util/NoSuchElementException", "java/lang/ArithmeticException"]
def dk_ups : List String := ["java/lang/RuntimeException", "java/lang/Exception", "java/lang/Throwable"]
def dk_strs : List (Nat × String) := [(43, "no candidate"), (50, "index is not 0 .. 255"), (64, "no domain"), (88, "slot is not 0 .. 7"), (94, "secret is not 1 .. q - 1"), (108, "k is not 1 .. q - 1"), (119, "r or s is 0"), (122, "peer is not 2 .. p - 2"), (124, "secret would be 1"), (128, "no key")]
def dk_V (U : State) : Prop :=
  (∀ E ∈ dk_exs, va_Nw (.castable E E) U) ∧ (∀ Y ∈ dk_ups, va_Nw (.declares (Bundle.initS Y)) U) ∧ (∀ q ∈ dk_strs, ∃ sa : Nat, vk_R RX0 q.1 q.2 sa U) ∧ ∀ E ∈ dk_exs, ∀ T ∈ dk_exs, E ≠ T → va_Nc E T U
theorem dk_V.warm {s U : State} (hW : s.WarmedH U.vm) (h : dk_V s) : dk_V U :=
  ⟨fun E q => va_Nw.warmC hW (h.1 E q), fun Y q => va_Nw.warmD hW (h.2.1 Y q), fun q hq => (h.2.2.1 q hq).elim fun sa h9 => ⟨sa, vk_R.warm hW h9⟩, fun E q T q2 n => va_Nc.moved hW.alike (h.2.2.2 E q T q2 n)⟩
def dk_E (A : Nat → Prop) (U : State) (H : Heap) : Prop := vx_Zq Bundle.tN "UNASSIGNED_STACK" Bundle.steD A U H ∧ vx_Zq Bundle.tN "SUPPRESSED_SENTINEL" Bundle.listD A U H ∧ dk_V U
theorem dk_E.go {A A1 : Nat → Prop} {s U : State} {H : Heap} {locs : List Loc} (h : dk_E A s s.heap) (hS : va_S A s.heap H locs) (hF : ∀ q, A1 q → A q) (hU : U.heap = H) (hW : s.WarmedH U.vm) : dk_E A1 U U.heap := by
  rw [hU]
  exact ⟨vx_Zq.moved hW.alike ((h.1.kept hS.2.1).narrow hF), vx_Zq.moved hW.alike ((h.2.1.kept hS.2.1).narrow hF), h.2.2.warm hW⟩
theorem dk_E.blind {A : Nat → Prop} {U : State} {g : JFrame} {mk : MethodId} {a : Array Value} (h : dk_E A U U.heap) : dk_E A (U.calling g mk a) (U.calling g mk a).heap :=
  ⟨vx_Zq.moved (u := U) (U := U.calling g mk a) (Vm.Alike.refl U.vm) h.1, vx_Zq.moved (u := U) (U := U.calling g mk a) (Vm.Alike.refl U.vm) h.2.1, h.2.2.warm (s := U) (U := U.calling g mk a) (State.WarmedH.refl U)⟩
theorem dk_F {A : Nat → Prop} {s t : State} {H : Heap} {locs : List Loc} (hS : va_S A s.heap H locs) (hz : H.size ≤ t.heap.size) (hk : ∀ q : Nat, q < H.size → t.heap[q]? = H[q]?) : va_F A s t :=
  ⟨Nat.le_trans hS.1 hz, fun q h1 h2 => (hk q (Nat.lt_of_lt_of_le h1 hS.1)).trans (hS.2.1 q h1 h2)⟩
/-! the class's state: p, q, seed, counter of the candidate; p, q, g of the domain; the secrets; the public numbers -/
abbrev dk_S : Type := Int32 × Int32 × Int64 × Int32 × Int32 × Int32 × Int32 × (Nat → Int32) × (Nat → Int32)
abbrev dk_B (dC : Nat → ClassId) (dI : Nat → Nat → Nat) (A : Nat → Prop) (h0 h1 h2 : Nat) (a1 a2 : ClassId) (u : dk_S) (t : State) : Prop := match u with
  | (cp, cq, cs, cn, dp, dq, dg, se, pu) => va_P (dC, dI) vwCl [(h0, .inr (0, [.int cp, .int cq, .long cs, .int cn, .int dp, .int dq, .int dg, .ref h1, .ref h2])), (h1, .inl (a1, 8, .inl se)), (h2, .inl (a2, 8, .inl pu))] t.heap ∧ va_K (dC, dI) vwCl [(a1, .int), (a2, .int)] t ∧ va_D A [(h0, .inr (0, [.int cp, .int cq, .long cs, .int cn, .int dp, .int dq, .int dg, .ref h1, .ref h2])), (h1, .inl (a1, 8, .inl se)), (h2, .inl (a2, 8, .inl pu))]
/-! the reference's: madeP, madeQ, outcome, hasCandidate, seed, candidateP, candidateQ, candidateCounter, p, q, g, thrown; the secrets -/
abbrev dk_T : Type := Int32 × Int32 × Int32 × Int32 × Int64 × Int32 × Int32 × Int32 × Int32 × Int32 × Int32 × Int32 × (Nat → Int32)
abbrev dk_C (dC : Nat → ClassId) (dI : Nat → Nat → Nat) (A : Nat → Prop) (k0 k1 : Nat) (b1 : ClassId) (u : dk_T) (t : State) : Prop := match u with
  | (mp, mq, mo, hc, ms9, kp, kq, kn, pp, qq, gg, th, sk) => va_P (dC, dI) vwCl [(k0, .inr (1, [.int mp, .int mq, .int mo, .int hc, .long ms9, .int kp, .int kq, .int kn, .int pp, .int qq, .int gg, .ref k1, .int th])), (k1, .inl (b1, 8, .inl sk))] t.heap ∧ va_K (dC, dI) vwCl [(b1, .int)] t ∧ va_D A [(k0, .inr (1, [.int mp, .int mq, .int mo, .int hc, .long ms9, .int kp, .int kq, .int kn, .int pp, .int qq, .int gg, .ref k1, .int th])), (k1, .inl (b1, 8, .inl sk))]
